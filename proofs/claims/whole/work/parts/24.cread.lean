theorem inX5_isSeries_X5 : ∀ x ∈ wsX50, x ∈ wsX5_isSeries := by decide +kernel
theorem kwX5_isSeries_10 : Cond.fieldLink RX5 10 "SeriesMarks" "allSeries" "Ljava/util/ArrayList;" ∈ wsX5_isSeries := by decide +kernel
set_option maxHeartbeats 4000000 in
set_option maxRecDepth 100000 in
theorem c_X5_isSeries (l : Launch) (E : gE) (zw : va_W) {ca : Nat → Nat} {t0 : Int32} {ar : Nat → Nat → Int32} {dr ch : Nat → Int32} {ns np na : Nat} {qe : Nat → Nat} {pl : Nat → Nat → Nat} (hC : CF E ca zw t0 ar dr ch ns np na qe pl) (hb : ns ≤ 120 ∧ np ≤ 2000 ∧ na ≤ 10) (x : Int32) : CtI l yX5_isSeries wsX5_isSeries ({ frames := 1, cells := 0, slots := 0, locals := 20 }) E [.ref (ca 0), .int x] zw (fun r w1 => zw = w1 ∧ r = b01 (0 ≤ x.toInt ∧ x.toInt < ns)) 0 0 := by
  refine Ct.of (cc := cX5_isSeries) (nL := 2) (ret := (some .boolean)) (by decide) rfl (Nat.le_of_ble_eq_true rfl) ?_
  intro p e s m args below meth c C hr hnm
  refine v_eqlv (lv9 := [(0, .ref (ca 0)), (1, .int x)]) rfl ?_
  obtain ⟨hX, h4, h5, h6, h7, hL1, hL2, hL3⟩ := id hC
  obtain ⟨fs1, hq1⟩ := hL1.cell
  obtain ⟨fs2, hq2⟩ := hL2.cell
  obtain ⟨fs3, hq3⟩ := hL3.cell
  refine v_iload_n C dX5_isSeries_0 rfl rfl ?_
  refine v_if_lt (tgt := 19) C dX5_isSeries_1 (by decide) (fun c1 => ?_) (fun c1 => ?_)
  · refine v_iconst (v := 0) C dX5_isSeries_19 (by decide) ?_
    refine v_zret C hr dX5_isSeries_20 (by decide) (Nat.le_of_ble_eq_true rfl) (Nat.le_of_ble_eq_true rfl) ?_
    exact ⟨_, rfl, ⟨rfl, by first | exact (b01_f (fun h => by rw [fa_lt, ti_0] at c1; omega)).symm | exact (b01_f (fun h => by rw [fa_le, nI_toInt (by omega)] at c12; omega)).symm | exact (b01_t (by rw [fa_lt, ti_0] at c1; rw [fa_le, nI_toInt (by omega)] at c12; omega)).symm⟩⟩
  · refine v_iload_n C dX5_isSeries_4 rfl rfl ?_
    refine v_aload_n C dX5_isSeries_5 rfl rfl ?_
    refine v_get (v := .ref (ca 1)) C inX5_isSeries_X5 0 hX rfl 1 (by decide) kwX5_isSeries_10 rfl rfl dX5_isSeries_6 ?_
    refine v_callVi C (hL1.size l) (cwV 0 C.1.2.2.2.2 gX5_isSeries_Jx4a65c_size_8abf5 rfl rfl rfl (by decide +kernel) ⟨by decide, by decide⟩) 1 0 hq1 rfl rfl rfl (Nat.le_of_ble_eq_true rfl) dX5_isSeries_9 ⟨Nat.le_of_ble_eq_true rfl, Nat.le_of_ble_eq_true rfl⟩ (fun r w1 hp => ?_)
    obtain ⟨rfl, rfl⟩ := hp
    refine v_icmp_ge (tgt := 19) C dX5_isSeries_12 (by decide) (fun c12 => ?_) (fun c12 => ?_)
    · refine v_iconst (v := 0) C dX5_isSeries_19 (by decide) ?_
      refine v_zret C hr dX5_isSeries_20 (by decide) (Nat.le_of_ble_eq_true rfl) (Nat.le_of_ble_eq_true rfl) ?_
      exact ⟨_, rfl, ⟨rfl, by first | exact (b01_f (fun h => by rw [fa_lt, ti_0] at c1; omega)).symm | exact (b01_f (fun h => by rw [fa_le, nI_toInt (by omega)] at c12; omega)).symm | exact (b01_t (by rw [fa_lt, ti_0] at c1; rw [fa_le, nI_toInt (by omega)] at c12; omega)).symm⟩⟩
    · refine v_iconst (v := 1) C dX5_isSeries_15 (by decide) ?_
      refine v_goto (tgt := 20) C dX5_isSeries_16 (by decide) ?_
      refine v_zret C hr dX5_isSeries_20 (by decide) (Nat.le_of_ble_eq_true rfl) (Nat.le_of_ble_eq_true rfl) ?_
      exact ⟨_, rfl, ⟨rfl, by first | exact (b01_f (fun h => by rw [fa_lt, ti_0] at c1; omega)).symm | exact (b01_f (fun h => by rw [fa_le, nI_toInt (by omega)] at c12; omega)).symm | exact (b01_t (by rw [fa_lt, ti_0] at c1; rw [fa_le, nI_toInt (by omega)] at c12; omega)).symm⟩⟩
theorem inX5_isAsking_X5 : ∀ x ∈ wsX50, x ∈ wsX5_isAsking := by decide +kernel
theorem kwX5_isAsking_19 : Cond.fieldLink RX5 19 "SeriesMarks" "askings" "Ljava/util/ArrayList;" ∈ wsX5_isAsking := by decide +kernel
set_option maxHeartbeats 4000000 in
set_option maxRecDepth 100000 in
theorem c_X5_isAsking (l : Launch) (E : gE) (zw : va_W) {ca : Nat → Nat} {t0 : Int32} {ar : Nat → Nat → Int32} {dr ch : Nat → Int32} {ns np na : Nat} {qe : Nat → Nat} {pl : Nat → Nat → Nat} (hC : CF E ca zw t0 ar dr ch ns np na qe pl) (hb : ns ≤ 120 ∧ np ≤ 2000 ∧ na ≤ 10) (x : Int32) : CtI l yX5_isAsking wsX5_isAsking ({ frames := 1, cells := 0, slots := 0, locals := 20 }) E [.ref (ca 0), .int x] zw (fun r w1 => zw = w1 ∧ r = b01 (0 ≤ x.toInt ∧ x.toInt < na)) 0 0 := by
  refine Ct.of (cc := cX5_isAsking) (nL := 2) (ret := (some .boolean)) (by decide) rfl (Nat.le_of_ble_eq_true rfl) ?_
  intro p e s m args below meth c C hr hnm
  refine v_eqlv (lv9 := [(0, .ref (ca 0)), (1, .int x)]) rfl ?_
  obtain ⟨hX, h4, h5, h6, h7, hL1, hL2, hL3⟩ := id hC
  obtain ⟨fs1, hq1⟩ := hL1.cell
  obtain ⟨fs2, hq2⟩ := hL2.cell
  obtain ⟨fs3, hq3⟩ := hL3.cell
  refine v_iload_n C dX5_isAsking_0 rfl rfl ?_
  refine v_if_lt (tgt := 19) C dX5_isAsking_1 (by decide) (fun c1 => ?_) (fun c1 => ?_)
  · refine v_iconst (v := 0) C dX5_isAsking_19 (by decide) ?_
    refine v_zret C hr dX5_isAsking_20 (by decide) (Nat.le_of_ble_eq_true rfl) (Nat.le_of_ble_eq_true rfl) ?_
    exact ⟨_, rfl, ⟨rfl, by first | exact (b01_f (fun h => by rw [fa_lt, ti_0] at c1; omega)).symm | exact (b01_f (fun h => by rw [fa_le, nI_toInt (by omega)] at c12; omega)).symm | exact (b01_t (by rw [fa_lt, ti_0] at c1; rw [fa_le, nI_toInt (by omega)] at c12; omega)).symm⟩⟩
  · refine v_iload_n C dX5_isAsking_4 rfl rfl ?_
    refine v_aload_n C dX5_isAsking_5 rfl rfl ?_
    refine v_get (v := .ref (ca 3)) C inX5_isAsking_X5 0 hX rfl 3 (by decide) kwX5_isAsking_19 rfl rfl dX5_isAsking_6 ?_
    refine v_callVi C (hL3.size l) (cwV 0 C.1.2.2.2.2 gX5_isAsking_Jx4a65c_size_8abf5 rfl rfl rfl (by decide +kernel) ⟨by decide, by decide⟩) 3 0 hq3 rfl rfl rfl (Nat.le_of_ble_eq_true rfl) dX5_isAsking_9 ⟨Nat.le_of_ble_eq_true rfl, Nat.le_of_ble_eq_true rfl⟩ (fun r w1 hp => ?_)
    obtain ⟨rfl, rfl⟩ := hp
    refine v_icmp_ge (tgt := 19) C dX5_isAsking_12 (by decide) (fun c12 => ?_) (fun c12 => ?_)
    · refine v_iconst (v := 0) C dX5_isAsking_19 (by decide) ?_
      refine v_zret C hr dX5_isAsking_20 (by decide) (Nat.le_of_ble_eq_true rfl) (Nat.le_of_ble_eq_true rfl) ?_
      exact ⟨_, rfl, ⟨rfl, by first | exact (b01_f (fun h => by rw [fa_lt, ti_0] at c1; omega)).symm | exact (b01_f (fun h => by rw [fa_le, nI_toInt (by omega)] at c12; omega)).symm | exact (b01_t (by rw [fa_lt, ti_0] at c1; rw [fa_le, nI_toInt (by omega)] at c12; omega)).symm⟩⟩
    · refine v_iconst (v := 1) C dX5_isAsking_15 (by decide) ?_
      refine v_goto (tgt := 20) C dX5_isAsking_16 (by decide) ?_
      refine v_zret C hr dX5_isAsking_20 (by decide) (Nat.le_of_ble_eq_true rfl) (Nat.le_of_ble_eq_true rfl) ?_
      exact ⟨_, rfl, ⟨rfl, by first | exact (b01_f (fun h => by rw [fa_lt, ti_0] at c1; omega)).symm | exact (b01_f (fun h => by rw [fa_le, nI_toInt (by omega)] at c12; omega)).symm | exact (b01_t (by rw [fa_lt, ti_0] at c1; rw [fa_le, nI_toInt (by omega)] at c12; omega)).symm⟩⟩
theorem inX5_isPastTick_X5 : ∀ x ∈ wsX50, x ∈ wsX5_isPastTick := by decide +kernel
theorem kwX5_isPastTick_43 : Cond.fieldLink RX5 43 "SeriesMarks" "tick" "I" ∈ wsX5_isPastTick := by decide +kernel
set_option maxHeartbeats 4000000 in
set_option maxRecDepth 100000 in
theorem c_X5_isPastTick (l : Launch) (E : gE) (zw : va_W) {ca : Nat → Nat} {t0 : Int32} {ar : Nat → Nat → Int32} {dr ch : Nat → Int32} {ns np na : Nat} {qe : Nat → Nat} {pl : Nat → Nat → Nat} (hC : CF E ca zw t0 ar dr ch ns np na qe pl) (hb : ns ≤ 120 ∧ np ≤ 2000 ∧ na ≤ 10) (x : Int32) : CtI l yX5_isPastTick wsX5_isPastTick ({ frames := 0, cells := 0, slots := 0, locals := 0 }) E [.ref (ca 0), .int x] zw (fun r w1 => zw = w1 ∧ r = b01 (0 ≤ x.toInt ∧ x.toInt ≤ t0.toInt)) 0 0 := by
  refine Ct.of (cc := cX5_isPastTick) (nL := 2) (ret := (some .boolean)) (by decide) rfl (Nat.le_of_ble_eq_true rfl) ?_
  intro p e s m args below meth c C hr hnm
  refine v_eqlv (lv9 := [(0, .ref (ca 0)), (1, .int x)]) rfl ?_
  obtain ⟨hX, h4, h5, h6, h7, hL1, hL2, hL3⟩ := id hC
  obtain ⟨fs1, hq1⟩ := hL1.cell
  obtain ⟨fs2, hq2⟩ := hL2.cell
  obtain ⟨fs3, hq3⟩ := hL3.cell
  refine v_iload_n C dX5_isPastTick_0 rfl rfl ?_
  refine v_if_lt (tgt := 16) C dX5_isPastTick_1 (by decide) (fun c1 => ?_) (fun c1 => ?_)
  · refine v_iconst (v := 0) C dX5_isPastTick_16 (by decide) ?_
    refine v_zret C hr dX5_isPastTick_17 (by decide) (Nat.le_of_ble_eq_true rfl) (Nat.le_of_ble_eq_true rfl) ?_
    exact ⟨_, rfl, ⟨rfl, by first | exact (b01_f (fun h => by rw [fa_lt, ti_0] at c1; omega)).symm | exact (b01_f (fun h => by rw [fa_lt] at c9; omega)).symm | exact (b01_t (by rw [fa_lt, ti_0] at c1; rw [fa_lt] at c9; omega)).symm⟩⟩
  · refine v_iload_n C dX5_isPastTick_4 rfl rfl ?_
    refine v_aload_n C dX5_isPastTick_5 rfl rfl ?_
    refine v_get (v := .int t0) C inX5_isPastTick_X5 0 hX rfl 0 (by decide) kwX5_isPastTick_43 rfl rfl dX5_isPastTick_6 ?_
    refine v_icmp_gt (tgt := 16) C dX5_isPastTick_9 (by decide) (fun c9 => ?_) (fun c9 => ?_)
    · refine v_iconst (v := 0) C dX5_isPastTick_16 (by decide) ?_
      refine v_zret C hr dX5_isPastTick_17 (by decide) (Nat.le_of_ble_eq_true rfl) (Nat.le_of_ble_eq_true rfl) ?_
      exact ⟨_, rfl, ⟨rfl, by first | exact (b01_f (fun h => by rw [fa_lt, ti_0] at c1; omega)).symm | exact (b01_f (fun h => by rw [fa_lt] at c9; omega)).symm | exact (b01_t (by rw [fa_lt, ti_0] at c1; rw [fa_lt] at c9; omega)).symm⟩⟩
    · refine v_iconst (v := 1) C dX5_isPastTick_12 (by decide) ?_
      refine v_goto (tgt := 17) C dX5_isPastTick_13 (by decide) ?_
      refine v_zret C hr dX5_isPastTick_17 (by decide) (Nat.le_of_ble_eq_true rfl) (Nat.le_of_ble_eq_true rfl) ?_
      exact ⟨_, rfl, ⟨rfl, by first | exact (b01_f (fun h => by rw [fa_lt, ti_0] at c1; omega)).symm | exact (b01_f (fun h => by rw [fa_lt] at c9; omega)).symm | exact (b01_t (by rw [fa_lt, ti_0] at c1; rw [fa_lt] at c9; omega)).symm⟩⟩
theorem inX5_isSpan_X5 : ∀ x ∈ wsX50, x ∈ wsX5_isSpan := by decide +kernel
theorem kwX5_isSpan_43 : Cond.fieldLink RX5 43 "SeriesMarks" "tick" "I" ∈ wsX5_isSpan := by decide +kernel
set_option maxHeartbeats 4000000 in
set_option maxRecDepth 100000 in
theorem c_X5_isSpan (l : Launch) (E : gE) (zw : va_W) {ca : Nat → Nat} {t0 : Int32} {ar : Nat → Nat → Int32} {dr ch : Nat → Int32} {ns np na : Nat} {qe : Nat → Nat} {pl : Nat → Nat → Nat} (hC : CF E ca zw t0 ar dr ch ns np na qe pl) (hb : ns ≤ 120 ∧ np ≤ 2000 ∧ na ≤ 10) (f t : Int32) : CtI l yX5_isSpan wsX5_isSpan ({ frames := 0, cells := 0, slots := 0, locals := 0 }) E [.ref (ca 0), .int f, .int t] zw (fun r w1 => zw = w1 ∧ r = b01 (0 ≤ t.toInt ∧ t.toInt ≤ t0.toInt ∧ 0 ≤ f.toInt ∧ f.toInt ≤ t.toInt)) 0 0 := by
  refine Ct.of (cc := cX5_isSpan) (nL := 3) (ret := (some .boolean)) (by decide) rfl (Nat.le_of_ble_eq_true rfl) ?_
  intro p e s m args below meth c C hr hnm
  refine v_eqlv (lv9 := [(0, .ref (ca 0)), (1, .int f), (2, .int t)]) rfl ?_
  obtain ⟨hX, h4, h5, h6, h7, hL1, hL2, hL3⟩ := id hC
  obtain ⟨fs1, hq1⟩ := hL1.cell
  obtain ⟨fs2, hq2⟩ := hL2.cell
  obtain ⟨fs3, hq3⟩ := hL3.cell
  refine v_iload_n C dX5_isSpan_0 rfl rfl ?_
  refine v_if_lt (tgt := 21) C dX5_isSpan_1 (by decide) (fun c1 => ?_) (fun c1 => ?_)
  · refine v_iconst (v := 0) C dX5_isSpan_21 (by decide) ?_
    refine v_zret C hr dX5_isSpan_22 (by decide) (Nat.le_of_ble_eq_true rfl) (Nat.le_of_ble_eq_true rfl) ?_
    exact ⟨_, rfl, ⟨rfl, by first | exact (b01_f (fun h => by rw [fa_lt, ti_0] at c1; omega)).symm | exact (b01_f (fun h => by rw [fa_lt] at c6; omega)).symm | exact (b01_f (fun h => by rw [fa_lt] at c14; omega)).symm | exact (b01_t (by rw [fa_lt, ti_0] at c1; rw [fa_lt] at c6 c14; omega)).symm⟩⟩
  · refine v_iload_n C dX5_isSpan_4 rfl rfl ?_
    refine v_iload_n C dX5_isSpan_5 rfl rfl ?_
    refine v_icmp_gt (tgt := 21) C dX5_isSpan_6 (by decide) (fun c6 => ?_) (fun c6 => ?_)
    · refine v_iconst (v := 0) C dX5_isSpan_21 (by decide) ?_
      refine v_zret C hr dX5_isSpan_22 (by decide) (Nat.le_of_ble_eq_true rfl) (Nat.le_of_ble_eq_true rfl) ?_
      exact ⟨_, rfl, ⟨rfl, by first | exact (b01_f (fun h => by rw [fa_lt, ti_0] at c1; omega)).symm | exact (b01_f (fun h => by rw [fa_lt] at c6; omega)).symm | exact (b01_f (fun h => by rw [fa_lt] at c14; omega)).symm | exact (b01_t (by rw [fa_lt, ti_0] at c1; rw [fa_lt] at c6 c14; omega)).symm⟩⟩
    · refine v_iload_n C dX5_isSpan_9 rfl rfl ?_
      refine v_aload_n C dX5_isSpan_10 rfl rfl ?_
      refine v_get (v := .int t0) C inX5_isSpan_X5 0 hX rfl 0 (by decide) kwX5_isSpan_43 rfl rfl dX5_isSpan_11 ?_
      refine v_icmp_gt (tgt := 21) C dX5_isSpan_14 (by decide) (fun c14 => ?_) (fun c14 => ?_)
      · refine v_iconst (v := 0) C dX5_isSpan_21 (by decide) ?_
        refine v_zret C hr dX5_isSpan_22 (by decide) (Nat.le_of_ble_eq_true rfl) (Nat.le_of_ble_eq_true rfl) ?_
        exact ⟨_, rfl, ⟨rfl, by first | exact (b01_f (fun h => by rw [fa_lt, ti_0] at c1; omega)).symm | exact (b01_f (fun h => by rw [fa_lt] at c6; omega)).symm | exact (b01_f (fun h => by rw [fa_lt] at c14; omega)).symm | exact (b01_t (by rw [fa_lt, ti_0] at c1; rw [fa_lt] at c6 c14; omega)).symm⟩⟩
      · refine v_iconst (v := 1) C dX5_isSpan_17 (by decide) ?_
        refine v_goto (tgt := 22) C dX5_isSpan_18 (by decide) ?_
        refine v_zret C hr dX5_isSpan_22 (by decide) (Nat.le_of_ble_eq_true rfl) (Nat.le_of_ble_eq_true rfl) ?_
        exact ⟨_, rfl, ⟨rfl, by first | exact (b01_f (fun h => by rw [fa_lt, ti_0] at c1; omega)).symm | exact (b01_f (fun h => by rw [fa_lt] at c6; omega)).symm | exact (b01_f (fun h => by rw [fa_lt] at c14; omega)).symm | exact (b01_t (by rw [fa_lt, ti_0] at c1; rw [fa_lt] at c6 c14; omega)).symm⟩⟩
theorem inX5_numberOf_X5 : ∀ x ∈ wsX50, x ∈ wsX5_numberOf := by decide +kernel
theorem kwX5_numberOf_10 : Cond.fieldLink RX5 10 "SeriesMarks" "allSeries" "Ljava/util/ArrayList;" ∈ wsX5_numberOf := by decide +kernel
theorem kwX5_numberOf_cl64 : Cond.classLink RX5 64 "SeriesMarks$Series" ∈ wsX5_numberOf := by decide +kernel
theorem inX5_numberOf_X3 : ∀ x ∈ wsX30, x ∈ wsX5_numberOf := by decide +kernel
set_option maxHeartbeats 4000000 in
set_option maxRecDepth 100000 in
theorem lp_X5_numberOf {p : Program} {l : Launch} {e : Env} {s : State} {m : MethodId} {args : Array Value} {below : List Frame} {meth : Method} {c : Code} {E : gE} {zw : va_W} (C : gC p s m args meth c E cX5_numberOf 3 wsX5_numberOf yX5_numberOf.cls) (hr : meth.sig.returnType = some .int) {ca : Nat → Nat} {t0 : Int32} {ar : Nat → Nat → Int32} {dr ch : Nat → Int32} {ns np na : Nat} {qe : Nat → Nat} {pl : Nat → Nat → Nat} (hC : CF E ca zw t0 ar dr ch ns np na qe pl) (hb : ns ≤ 120 ∧ np ≤ 2000 ∧ na ≤ 10) {x : Int32} (res : Int32) : ∀ n i : Nat, i + n = ns → splF (ar 4) x n i = res → V p l e ({ frames := 3, cells := 0, slots := 0, locals := 64 }) s m args below meth c E 3 zw 0 0 (MQ below (gQ E (fun v9 w1 => ∃ r : Int32, v9 = some (.int r) ∧ (zw = w1 ∧ r = res))) args s 0 0 (gA E)) 2 [(0, .ref (ca 0)), (1, .int x), (2, .int (nI i))] [] := by
  obtain ⟨hX, h4, h5, h6, h7, hL1, hL2, hL3⟩ := id hC
  obtain ⟨fs1, hq1⟩ := hL1.cell
  obtain ⟨fs2, hq2⟩ := hL2.cell
  obtain ⟨fs3, hq3⟩ := hL3.cell
  intro n
  induction n with
  | zero =>
    intro i hi hR
    obtain rfl : i = ns := by omega
    refine v_iload_n C dX5_numberOf_2 rfl rfl ?_
    refine v_aload_n C dX5_numberOf_3 rfl rfl ?_
    refine v_get (v := .ref (ca 1)) C inX5_numberOf_X5 0 hX rfl 1 (by decide) kwX5_numberOf_10 rfl rfl dX5_numberOf_4 ?_
    refine v_callVi C (hL1.size l) (cwV 0 C.1.2.2.2.2 gX5_numberOf_Jx4a65c_size_8abf5 rfl rfl rfl (by decide +kernel) ⟨by decide, by decide⟩) 1 0 hq1 rfl rfl rfl (Nat.le_of_ble_eq_true rfl) dX5_numberOf_7 ⟨Nat.le_of_ble_eq_true rfl, Nat.le_of_ble_eq_true rfl⟩ (fun r w1 hp => ?_)
    obtain ⟨rfl, rfl⟩ := hp
    refine v_icmp_ge (tgt := 39) C dX5_numberOf_10 (by decide) (fun c10 => ?_) (fun c10 => absurd (nI_le (Nat.le_refl _) (by omega)) c10)
    refine v_bipush (v := (-9)) C dX5_numberOf_39 (by decide) ?_
    refine v_iret C hr dX5_numberOf_41 (Nat.le_of_ble_eq_true rfl) (Nat.le_of_ble_eq_true rfl) ?_
    exact ⟨_, rfl, ⟨rfl, hR⟩⟩
  | succ n ih =>
    intro i hi hR
    refine v_iload_n C dX5_numberOf_2 rfl rfl ?_
    refine v_aload_n C dX5_numberOf_3 rfl rfl ?_
    refine v_get (v := .ref (ca 1)) C inX5_numberOf_X5 0 hX rfl 1 (by decide) kwX5_numberOf_10 rfl rfl dX5_numberOf_4 ?_
    refine v_callVi C (hL1.size l) (cwV 0 C.1.2.2.2.2 gX5_numberOf_Jx4a65c_size_8abf5 rfl rfl rfl (by decide +kernel) ⟨by decide, by decide⟩) 1 0 hq1 rfl rfl rfl (Nat.le_of_ble_eq_true rfl) dX5_numberOf_7 ⟨Nat.le_of_ble_eq_true rfl, Nat.le_of_ble_eq_true rfl⟩ (fun r w1 hp => ?_)
    obtain ⟨rfl, rfl⟩ := hp
    refine v_icmp_ge (tgt := 39) C dX5_numberOf_10 (by decide) (fun c10 => absurd c10 (nI_ge (by omega) (by omega))) (fun c10 => ?_)
    refine v_aload_n C dX5_numberOf_13 rfl rfl ?_
    refine v_get (v := .ref (ca 1)) C inX5_numberOf_X5 0 hX rfl 1 (by decide) kwX5_numberOf_10 rfl rfl dX5_numberOf_14 ?_
    refine v_iload_n C dX5_numberOf_17 rfl rfl ?_
    refine v_callVa C (hL1.get l (j := i) (by omega)) (cwV 1 C.1.2.2.2.2 gX5_numberOf_Jx4a65c_get_915e3 rfl rfl rfl (by decide +kernel) ⟨by decide, by decide⟩) 1 0 hq1 rfl rfl rfl (Nat.le_of_ble_eq_true rfl) dX5_numberOf_18 ⟨Nat.le_of_ble_eq_true rfl, Nat.le_of_ble_eq_true rfl⟩ (fun rq w1 hp => ?_)
    obtain ⟨rfl, hob⟩ := hp
    refine v_at (pc9 := 21) rfl ?_
    refine v_cast C kwX5_numberOf_cl64 (pl 1 i) hob rfl dX5_numberOf_21 ?_
    refine v_getN C inX5_numberOf_X3 rfl (pl 1 i) hob rfl 0 (by decide) (by decide +kernel) rfl dX5_numberOf_24 ?_
    refine v_iload_n C dX5_numberOf_27 rfl rfl ?_
    refine v_icmp_ne (tgt := 33) C dX5_numberOf_28 (by decide) (fun c28 => ?_) (fun c28 => ?_)
    · refine v_iincN C dX5_numberOf_33 rfl (by decide) rfl ?_
      refine v_goto (tgt := 2) C dX5_numberOf_36 (by decide) ?_
      exact ih (i + 1) (by omega) (by rw [← hR]; exact (if_neg c28).symm)
    · refine v_iload_n C dX5_numberOf_31 rfl rfl ?_
      refine v_iret C hr dX5_numberOf_32 (Nat.le_of_ble_eq_true rfl) (Nat.le_of_ble_eq_true rfl) ?_
      exact ⟨_, rfl, ⟨rfl, by rw [← hR]; exact (if_pos c28).symm⟩⟩
set_option maxHeartbeats 4000000 in
set_option maxRecDepth 100000 in
theorem c_X5_numberOf (l : Launch) (E : gE) (zw : va_W) {ca : Nat → Nat} {t0 : Int32} {ar : Nat → Nat → Int32} {dr ch : Nat → Int32} {ns np na : Nat} {qe : Nat → Nat} {pl : Nat → Nat → Nat} (hC : CF E ca zw t0 ar dr ch ns np na qe pl) (hb : ns ≤ 120 ∧ np ≤ 2000 ∧ na ≤ 10) (x : Int32) : CtI l yX5_numberOf wsX5_numberOf ({ frames := 3, cells := 0, slots := 0, locals := 64 }) E [.ref (ca 0), .int x] zw (fun r w1 => zw = w1 ∧ r = spl (ar 4) x ns) 0 0 := by
  refine Ct.of (cc := cX5_numberOf) (nL := 3) (ret := (some .int)) (by decide) rfl (Nat.le_of_ble_eq_true rfl) ?_
  intro p e s m args below meth c C hr hnm
  refine v_eqlv (lv9 := [(0, .ref (ca 0)), (1, .int x)]) rfl ?_
  refine v_iconst (v := 0) C dX5_numberOf_0 (by decide) ?_
  refine v_tov nI_0.symm ?_
  refine v_istore_n C dX5_numberOf_1 rfl (by decide) rfl ?_
  exact lp_X5_numberOf C hr hC hb _ ns 0 (Nat.zero_add _) rfl
theorem inX5_growthOfAlike_X5 : ∀ x ∈ wsX50, x ∈ wsX5_growthOfAlike := by decide +kernel
theorem kwX5_growthOfAlike_16 : Cond.fieldLink RX5 16 "SeriesMarks" "samples" "Ljava/util/ArrayList;" ∈ wsX5_growthOfAlike := by decide +kernel
theorem kwX5_growthOfAlike_cl83 : Cond.classLink RX5 83 "SeriesMarks$Sample" ∈ wsX5_growthOfAlike := by decide +kernel
theorem inX5_growthOfAlike_X2 : ∀ x ∈ wsX20, x ∈ wsX5_growthOfAlike := by decide +kernel
set_option maxHeartbeats 4000000 in
set_option maxRecDepth 100000 in
theorem lp_X5_growthOfAlike {p : Program} {l : Launch} {e : Env} {s : State} {m : MethodId} {args : Array Value} {below : List Frame} {meth : Method} {c : Code} {Q : State → Prop} {E : gE} {zw : va_W} (C : gC p s m args meth c E cX5_growthOfAlike 9 wsX5_growthOfAlike yX5_growthOfAlike.cls) {ca : Nat → Nat} {t0 : Int32} {ar : Nat → Nat → Int32} {dr ch : Nat → Int32} {ns np na : Nat} {qe : Nat → Nat} {pl : Nat → Nat → Nat} (hC : CF E ca zw t0 ar dr ch ns np na qe pl) (hb : ns ≤ 120 ∧ np ≤ 2000 ∧ na ≤ 10) {d9 x f t : Int32} (hK : V p l e ({ frames := 3, cells := 0, slots := 0, locals := 64 }) s m args below meth c E 9 zw 0 0 Q 73 [(0, .ref (ca 0)), (1, .int d9), (2, .int x), (3, .int f), (4, .int t), (5, .long (smL (fun k => inSp (ar 12) f t k && decide (sNm ar k &&& d9 = x &&& d9)) (ar 13) np)), (7, .int (nI np))] []) : ∀ n i : Nat, i + n = np → V p l e ({ frames := 3, cells := 0, slots := 0, locals := 64 }) s m args below meth c E 9 zw 0 0 Q 6 [(0, .ref (ca 0)), (1, .int d9), (2, .int x), (3, .int f), (4, .int t), (5, .long (smL (fun k => inSp (ar 12) f t k && decide (sNm ar k &&& d9 = x &&& d9)) (ar 13) i)), (7, .int (nI i))] [] := by
  obtain ⟨hX, h4, h5, h6, h7, hL1, hL2, hL3⟩ := id hC
  obtain ⟨fs1, hq1⟩ := hL1.cell
  obtain ⟨fs2, hq2⟩ := hL2.cell
  obtain ⟨fs3, hq3⟩ := hL3.cell
  intro n
  induction n with
  | zero =>
    intro i hi
    obtain rfl : i = np := by omega
    refine v_iload C dX5_growthOfAlike_6 rfl ?_
    refine v_aload_n C dX5_growthOfAlike_8 rfl rfl ?_
    refine v_get (v := .ref (ca 2)) C inX5_growthOfAlike_X5 0 hX rfl 2 (by decide) kwX5_growthOfAlike_16 rfl rfl dX5_growthOfAlike_9 ?_
    refine v_callVi C (hL2.size l) (cwV 0 C.1.2.2.2.2 gX5_growthOfAlike_Jx4a65c_size_8abf5 rfl rfl rfl (by decide +kernel) ⟨by decide, by decide⟩) 2 0 hq2 rfl rfl rfl (Nat.le_of_ble_eq_true rfl) dX5_growthOfAlike_12 ⟨Nat.le_of_ble_eq_true rfl, Nat.le_of_ble_eq_true rfl⟩ (fun r w1 hp => ?_)
    obtain ⟨rfl, rfl⟩ := hp
    refine v_icmp_ge (tgt := 73) C dX5_growthOfAlike_15 (by decide) (fun c15 => ?_) (fun c15 => absurd (nI_le (Nat.le_refl _) (by omega)) c15)
    exact hK
  | succ n ih =>
    intro i hi
    refine v_iload C dX5_growthOfAlike_6 rfl ?_
    refine v_aload_n C dX5_growthOfAlike_8 rfl rfl ?_
    refine v_get (v := .ref (ca 2)) C inX5_growthOfAlike_X5 0 hX rfl 2 (by decide) kwX5_growthOfAlike_16 rfl rfl dX5_growthOfAlike_9 ?_
    refine v_callVi C (hL2.size l) (cwV 0 C.1.2.2.2.2 gX5_growthOfAlike_Jx4a65c_size_8abf5 rfl rfl rfl (by decide +kernel) ⟨by decide, by decide⟩) 2 0 hq2 rfl rfl rfl (Nat.le_of_ble_eq_true rfl) dX5_growthOfAlike_12 ⟨Nat.le_of_ble_eq_true rfl, Nat.le_of_ble_eq_true rfl⟩ (fun r w1 hp => ?_)
    obtain ⟨rfl, rfl⟩ := hp
    refine v_icmp_ge (tgt := 73) C dX5_growthOfAlike_15 (by decide) (fun c15 => absurd c15 (nI_ge (by omega) (by omega))) (fun c15 => ?_)
    refine v_aload_n C dX5_growthOfAlike_18 rfl rfl ?_
    refine v_get (v := .ref (ca 2)) C inX5_growthOfAlike_X5 0 hX rfl 2 (by decide) kwX5_growthOfAlike_16 rfl rfl dX5_growthOfAlike_19 ?_
    refine v_iload C dX5_growthOfAlike_22 rfl ?_
    refine v_callVa C (hL2.get l (j := i) (by omega)) (cwV 1 C.1.2.2.2.2 gX5_growthOfAlike_Jx4a65c_get_915e3 rfl rfl rfl (by decide +kernel) ⟨by decide, by decide⟩) 2 0 hq2 rfl rfl rfl (Nat.le_of_ble_eq_true rfl) dX5_growthOfAlike_24 ⟨Nat.le_of_ble_eq_true rfl, Nat.le_of_ble_eq_true rfl⟩ (fun rq w1 hp => ?_)
    obtain ⟨rfl, hob⟩ := hp
    refine v_at (pc9 := 27) rfl ?_
    refine v_cast C kwX5_growthOfAlike_cl83 (pl 2 i) hob rfl dX5_growthOfAlike_27 ?_
    refine v_astore C dX5_growthOfAlike_30 (by decide) rfl ?_
    refine v_aload C dX5_growthOfAlike_32 rfl ?_
    refine v_iload_n C dX5_growthOfAlike_34 rfl rfl ?_
    refine v_iload C dX5_growthOfAlike_35 rfl ?_
    refine v_callVi C (c_X2_isWithin l E zw hob f t) (cwV 2 C.1.2.2.2.2 gX5_growthOfAlike_X2_isWithin rfl rfl rfl (by decide +kernel) ⟨by decide, by decide⟩) (pl 2 i) 3 hob rfl rfl rfl (Nat.le_of_ble_eq_true rfl) dX5_growthOfAlike_37 ⟨Nat.le_of_ble_eq_true rfl, Nat.le_of_ble_eq_true rfl⟩ (fun r w1 hp => ?_)
    obtain ⟨rfl, hr9⟩ := hp
    rw [hr9]
    clear hr9
    refine v_if_eq (tgt := 67) C dX5_growthOfAlike_40 (by decide) (fun c40 => ?_) (fun c40 => ?_)
    · have h9 : (fun k => inSp (ar 12) f t k && decide (sNm ar k &&& d9 = x &&& d9)) i = false := by simp only [inSp, Bool.and_eq_false_iff, decide_eq_false_iff_not]; exact Or.inl (b01_0 c40)
      refine v_pick (lv9 := [(0, .ref (ca 0)), (1, .int d9), (2, .int x), (3, .int f), (4, .int t), (5, .long (smL (fun k => inSp (ar 12) f t k && decide (sNm ar k &&& d9 = x &&& d9)) (ar 13) (i + 1))), (7, .int (nI i))]) ⟨rfl, rfl, rfl, rfl, rfl, by first | rfl | (rw [smL_f h9, Int64.add_zero]; rfl), rfl, trivial⟩ ?_
      refine v_iincN C dX5_growthOfAlike_67 rfl (by decide) rfl ?_
      refine v_goto (tgt := 6) C dX5_growthOfAlike_70 (by decide) ?_
      exact ih (i + 1) (by omega)
    · have c40 : inSp (ar 12) f t i = true := decide_eq_true (b01_n c40)
      refine v_aload C dX5_growthOfAlike_43 rfl ?_
      refine v_getN C inX5_growthOfAlike_X2 rfl (pl 2 i) hob rfl 0 (by decide) (by decide +kernel) rfl dX5_growthOfAlike_45 ?_
      refine v_iload_n C dX5_growthOfAlike_48 rfl rfl ?_
      refine v_iand C dX5_growthOfAlike_49 ?_
      refine v_iload_n C dX5_growthOfAlike_50 rfl rfl ?_
      refine v_iload_n C dX5_growthOfAlike_51 rfl rfl ?_
      refine v_iand C dX5_growthOfAlike_52 ?_
      refine v_icmp_ne (tgt := 67) C dX5_growthOfAlike_53 (by decide) (fun c53 => ?_) (fun c53 => ?_)
      · have h9 : (fun k => inSp (ar 12) f t k && decide (sNm ar k &&& d9 = x &&& d9)) i = false := by
          rw [Bool.and_eq_false_iff]
          exact Or.inr (decide_eq_false c53)
        refine v_pick (lv9 := [(0, .ref (ca 0)), (1, .int d9), (2, .int x), (3, .int f), (4, .int t), (5, .long (smL (fun k => inSp (ar 12) f t k && decide (sNm ar k &&& d9 = x &&& d9)) (ar 13) (i + 1))), (7, .int (nI i))]) ⟨rfl, rfl, rfl, rfl, rfl, by first | rfl | (rw [smL_f h9, Int64.add_zero]; rfl), rfl, trivial⟩ ?_
        refine v_iincN C dX5_growthOfAlike_67 rfl (by decide) rfl ?_
        refine v_goto (tgt := 6) C dX5_growthOfAlike_70 (by decide) ?_
        exact ih (i + 1) (by omega)
      · have h9 : (fun k => inSp (ar 12) f t k && decide (sNm ar k &&& d9 = x &&& d9)) i = true := by
          rw [Bool.and_eq_true]
          exact ⟨c40, decide_eq_true c53⟩
        refine v_lload C dX5_growthOfAlike_56 rfl ?_
        refine v_aload C dX5_growthOfAlike_58 rfl ?_
        refine v_getN C inX5_growthOfAlike_X2 rfl (pl 2 i) hob rfl 2 (by decide) (by decide +kernel) rfl dX5_growthOfAlike_60 ?_
        refine v_i2l C dX5_growthOfAlike_63 rfl ?_
        refine v_ladd C dX5_growthOfAlike_64 ?_
        refine v_tovl (y := smL (fun k => inSp (ar 12) f t k && decide (sNm ar k &&& d9 = x &&& d9)) (ar 13) (i + 1)) (smL_t h9).symm ?_
        refine v_lstore C dX5_growthOfAlike_65 (by decide) rfl ?_
        refine v_pick (lv9 := [(0, .ref (ca 0)), (1, .int d9), (2, .int x), (3, .int f), (4, .int t), (5, .long (smL (fun k => inSp (ar 12) f t k && decide (sNm ar k &&& d9 = x &&& d9)) (ar 13) (i + 1))), (7, .int (nI i))]) ⟨rfl, rfl, rfl, rfl, rfl, by first | rfl | (rw [smL_f h9, Int64.add_zero]; rfl), rfl, trivial⟩ ?_
        refine v_iincN C dX5_growthOfAlike_67 rfl (by decide) rfl ?_
        refine v_goto (tgt := 6) C dX5_growthOfAlike_70 (by decide) ?_
        exact ih (i + 1) (by omega)
set_option maxHeartbeats 4000000 in
set_option maxRecDepth 100000 in
theorem c_X5_growthOfAlike (l : Launch) (E : gE) (zw : va_W) {ca : Nat → Nat} {t0 : Int32} {ar : Nat → Nat → Int32} {dr ch : Nat → Int32} {ns np na : Nat} {qe : Nat → Nat} {pl : Nat → Nat → Nat} (hC : CF E ca zw t0 ar dr ch ns np na qe pl) (hb : ns ≤ 120 ∧ np ≤ 2000 ∧ na ≤ 10) (d9 x f t : Int32) : CtL l yX5_growthOfAlike wsX5_growthOfAlike ({ frames := 3, cells := 0, slots := 0, locals := 64 }) E [.ref (ca 0), .int d9, .int x, .int f, .int t] zw (fun r w1 => zw = w1 ∧ r = smL (fun k => inSp (ar 12) f t k && decide (sNm ar k &&& d9 = x &&& d9)) (ar 13) np) 0 0 := by
  refine Ct.of (cc := cX5_growthOfAlike) (nL := 9) (ret := (some .long)) (by decide) rfl (Nat.le_of_ble_eq_true rfl) ?_
  intro p e s m args below meth c C hr hnm
  refine v_eqlv (lv9 := [(0, .ref (ca 0)), (1, .int d9), (2, .int x), (3, .int f), (4, .int t)]) rfl ?_
  refine v_lconst (v := 0) C dX5_growthOfAlike_0 (by decide) ?_
  refine v_lstore C dX5_growthOfAlike_1 (by decide) rfl ?_
  refine v_iconst (v := 0) C dX5_growthOfAlike_3 (by decide) ?_
  refine v_tov nI_0.symm ?_
  refine v_istore C dX5_growthOfAlike_4 (by decide) rfl ?_
  refine lp_X5_growthOfAlike C hC hb ?_ np 0 (Nat.zero_add _)
  refine v_lload C dX5_growthOfAlike_73 rfl ?_
  refine v_lret C hr dX5_growthOfAlike_75 (Nat.le_of_ble_eq_true rfl) (Nat.le_of_ble_eq_true rfl) ?_
  exact ⟨_, rfl, ⟨rfl, rfl⟩⟩
theorem inX5_gatherSeen_X5 : ∀ x ∈ wsX50, x ∈ wsX5_gatherSeen := by decide +kernel
theorem kwX5_gatherSeen_16 : Cond.fieldLink RX5 16 "SeriesMarks" "samples" "Ljava/util/ArrayList;" ∈ wsX5_gatherSeen := by decide +kernel
theorem kwX5_gatherSeen_cl83 : Cond.classLink RX5 83 "SeriesMarks$Sample" ∈ wsX5_gatherSeen := by decide +kernel
theorem kwX5_gatherSeen_36 : Cond.fieldLink RX5 36 "SeriesMarks" "seenNames" "LSeriesMarks$NameSet;" ∈ wsX5_gatherSeen := by decide +kernel
theorem inX5_gatherSeen_X2 : ∀ x ∈ wsX20, x ∈ wsX5_gatherSeen := by decide +kernel
set_option maxHeartbeats 4000000 in
set_option maxRecDepth 100000 in
theorem lp_X5_gatherSeen {p : Program} {l : Launch} {e : Env} {s : State} {m : MethodId} {args : Array Value} {below : List Frame} {meth : Method} {c : Code} {Q : State → Prop} {E : gE} {w0 : va_W} (C : gC p s m args meth c E cX5_gatherSeen 5 wsX5_gatherSeen yX5_gatherSeen.cls) {ca : Nat → Nat} {t0 : Int32} {ar : Nat → Nat → Int32} {dr ch : Nat → Int32} {ns np na : Nat} {qe : Nat → Nat} {pl : Nat → Nat → Nat} (hb : ns ≤ 120 ∧ np ≤ 2000 ∧ na ≤ 10) {f t : Int32} (hK : ∀ zw : va_W, CF E ca zw t0 ar dr ch ns np na qe pl → nFr 8 w0 zw → cS E ca zw 8 (insN (inSp (ar 12) f t) (sNm ar) np) → V p l e ({ frames := 4, cells := 0, slots := 0, locals := 87 }) s m args below meth c E 5 zw 0 0 Q 61 [(0, .ref (ca 0)), (1, .int f), (2, .int t), (3, .int (nI np))] []) : ∀ n i : Nat, i + n = np → ∀ zw : va_W, CF E ca zw t0 ar dr ch ns np na qe pl → nFr 8 w0 zw → cS E ca zw 8 (insN (inSp (ar 12) f t) (sNm ar) i) → V p l e ({ frames := 4, cells := 0, slots := 0, locals := 87 }) s m args below meth c E 5 zw 0 0 Q 9 [(0, .ref (ca 0)), (1, .int f), (2, .int t), (3, .int (nI i))] [] := by
  intro n
  induction n with
  | zero =>
    intro i hi zw hC hF hs
    obtain rfl : i = np := by omega
    obtain ⟨hX, h4, h5, h6, h7, hL1, hL2, hL3⟩ := id hC
    obtain ⟨fs1, hq1⟩ := hL1.cell
    obtain ⟨fs2, hq2⟩ := hL2.cell
    obtain ⟨fs3, hq3⟩ := hL3.cell
    refine v_iload_n C dX5_gatherSeen_9 rfl rfl ?_
    refine v_aload_n C dX5_gatherSeen_10 rfl rfl ?_
    refine v_get (v := .ref (ca 2)) C inX5_gatherSeen_X5 0 hX rfl 2 (by decide) kwX5_gatherSeen_16 rfl rfl dX5_gatherSeen_11 ?_
    refine v_callVi C (hL2.size l) (cwV 0 C.1.2.2.2.2 gX5_gatherSeen_Jx4a65c_size_8abf5 rfl rfl rfl (by decide +kernel) ⟨by decide, by decide⟩) 2 0 hq2 rfl rfl rfl (Nat.le_of_ble_eq_true rfl) dX5_gatherSeen_14 ⟨Nat.le_of_ble_eq_true rfl, Nat.le_of_ble_eq_true rfl⟩ (fun r w1 hp => ?_)
    obtain ⟨rfl, rfl⟩ := hp
    refine v_icmp_ge (tgt := 61) C dX5_gatherSeen_17 (by decide) (fun c17 => ?_) (fun c17 => absurd (nI_le (Nat.le_refl _) (by omega)) c17)
    exact hK zw hC hF hs
  | succ n ih =>
    intro i hi zw hC hF hs
    obtain ⟨hX, h4, h5, h6, h7, hL1, hL2, hL3⟩ := id hC
    obtain ⟨fs1, hq1⟩ := hL1.cell
    obtain ⟨fs2, hq2⟩ := hL2.cell
    obtain ⟨fs3, hq3⟩ := hL3.cell
    obtain ⟨fz, g8, g9, hU, hS, hl⟩ := id hs
    refine v_iload_n C dX5_gatherSeen_9 rfl rfl ?_
    refine v_aload_n C dX5_gatherSeen_10 rfl rfl ?_
    refine v_get (v := .ref (ca 2)) C inX5_gatherSeen_X5 0 hX rfl 2 (by decide) kwX5_gatherSeen_16 rfl rfl dX5_gatherSeen_11 ?_
    refine v_callVi C (hL2.size l) (cwV 0 C.1.2.2.2.2 gX5_gatherSeen_Jx4a65c_size_8abf5 rfl rfl rfl (by decide +kernel) ⟨by decide, by decide⟩) 2 0 hq2 rfl rfl rfl (Nat.le_of_ble_eq_true rfl) dX5_gatherSeen_14 ⟨Nat.le_of_ble_eq_true rfl, Nat.le_of_ble_eq_true rfl⟩ (fun r w1 hp => ?_)
    obtain ⟨rfl, rfl⟩ := hp
    refine v_icmp_ge (tgt := 61) C dX5_gatherSeen_17 (by decide) (fun c17 => absurd c17 (nI_ge (by omega) (by omega))) (fun c17 => ?_)
    refine v_aload_n C dX5_gatherSeen_20 rfl rfl ?_
    refine v_get (v := .ref (ca 2)) C inX5_gatherSeen_X5 0 hX rfl 2 (by decide) kwX5_gatherSeen_16 rfl rfl dX5_gatherSeen_21 ?_
    refine v_iload_n C dX5_gatherSeen_24 rfl rfl ?_
    refine v_callVa C (hL2.get l (j := i) (by omega)) (cwV 1 C.1.2.2.2.2 gX5_gatherSeen_Jx4a65c_get_915e3 rfl rfl rfl (by decide +kernel) ⟨by decide, by decide⟩) 2 0 hq2 rfl rfl rfl (Nat.le_of_ble_eq_true rfl) dX5_gatherSeen_25 ⟨Nat.le_of_ble_eq_true rfl, Nat.le_of_ble_eq_true rfl⟩ (fun rq w1 hp => ?_)
    obtain ⟨rfl, hob⟩ := hp
    refine v_at (pc9 := 28) rfl ?_
    refine v_cast C kwX5_gatherSeen_cl83 (pl 2 i) hob rfl dX5_gatherSeen_28 ?_
    refine v_astore C dX5_gatherSeen_31 (by decide) rfl ?_
    refine v_aload C dX5_gatherSeen_33 rfl ?_
    refine v_iload_n C dX5_gatherSeen_35 rfl rfl ?_
    refine v_iload_n C dX5_gatherSeen_36 rfl rfl ?_
    refine v_callVi C (c_X2_isWithin l E zw hob f t) (cwV 2 C.1.2.2.2.2 gX5_gatherSeen_X2_isWithin rfl rfl rfl (by decide +kernel) ⟨by decide, by decide⟩) (pl 2 i) 3 hob rfl rfl rfl (Nat.le_of_ble_eq_true rfl) dX5_gatherSeen_37 ⟨Nat.le_of_ble_eq_true rfl, Nat.le_of_ble_eq_true rfl⟩ (fun r w1 hp => ?_)
    obtain ⟨rfl, hr9⟩ := hp
    rw [hr9]
    clear hr9
    refine v_if_eq (tgt := 55) C dX5_gatherSeen_40 (by decide) (fun c40 => ?_) (fun c40 => ?_)
    · have c40 : inSp (ar 12) f t i = false := decide_eq_false (b01_0 c40)
      refine v_pick (lv9 := [(0, .ref (ca 0)), (1, .int f), (2, .int t), (3, .int (nI i))]) ⟨rfl, rfl, rfl, rfl, trivial⟩ ?_
      refine v_iincN C dX5_gatherSeen_55 rfl (by decide) rfl ?_
      refine v_goto (tgt := 9) C dX5_gatherSeen_58 (by decide) ?_
      first
      | exact ih (i + 1) (by omega) zw hC hF (by rw [insN_f c40]; exact hs)
      | (have e9 := insN_t (h := sNm ar) c40
         have := insN_len (inSp (ar 12) f t) (sNm ar) (i + 1)
         exact ih (i + 1) (by omega) zw hC hF ⟨f1, by rw [e9]; exact g8, g9, by rw [e9]; exact hU, insN_sor _ _ _, by omega⟩)
    · have c40 : inSp (ar 12) f t i = true := decide_eq_true (b01_n c40)
      refine v_aload_n C dX5_gatherSeen_43 rfl rfl ?_
      refine v_get (v := .ref (ca 8)) C inX5_gatherSeen_X5 0 hX rfl 6 (by decide) kwX5_gatherSeen_36 rfl rfl dX5_gatherSeen_44 ?_
      refine v_aload C dX5_gatherSeen_47 rfl ?_
      refine v_getN C inX5_gatherSeen_X2 rfl (pl 2 i) hob rfl 0 (by decide) (by decide +kernel) rfl dX5_gatherSeen_49 ?_
      refine v_callVu C (c_X1_put l E zw g8 g9 hS hU (by have := insN_len (inSp (ar 12) f t) (sNm ar) i; omega) (by decide) (sNm ar i)) (cwV 1 C.1.2.2.2.2 gX5_gatherSeen_X1_put rfl rfl rfl (by decide +kernel) ⟨by decide, by decide⟩) 8 2 g8 rfl rfl rfl (Nat.le_of_ble_eq_true rfl) dX5_gatherSeen_52 ⟨Nat.le_of_ble_eq_true rfl, Nat.le_of_ble_eq_true rfl⟩ (fun zw hp => ?_)
      obtain ⟨f1, g8, g9, hU, z1, z2⟩ := hp
      have hF1 : nFr 8 _ zw := ⟨z1, z2⟩
      have hC := hC.n hF1 (by decide) (by decide)
      have hF := hF.tr hF1
      refine v_pick (lv9 := [(0, .ref (ca 0)), (1, .int f), (2, .int t), (3, .int (nI i))]) ⟨rfl, rfl, rfl, rfl, trivial⟩ ?_
      refine v_iincN C dX5_gatherSeen_55 rfl (by decide) rfl ?_
      refine v_goto (tgt := 9) C dX5_gatherSeen_58 (by decide) ?_
      first
      | exact ih (i + 1) (by omega) zw hC hF (by rw [insN_f c40]; exact hs)
      | (have e9 := insN_t (h := sNm ar) c40
         have := insN_len (inSp (ar 12) f t) (sNm ar) (i + 1)
         exact ih (i + 1) (by omega) zw hC hF ⟨f1, by rw [e9]; exact g8, g9, by rw [e9]; exact hU, insN_sor _ _ _, by omega⟩)
set_option maxHeartbeats 4000000 in
set_option maxRecDepth 100000 in
theorem c_X5_gatherSeen (l : Launch) (E : gE) (zw : va_W) {ca : Nat → Nat} {t0 : Int32} {ar : Nat → Nat → Int32} {dr ch : Nat → Int32} {ns np na : Nat} {qe : Nat → Nat} {pl : Nat → Nat → Nat} (hC : CF E ca zw t0 ar dr ch ns np na qe pl) (hb : ns ≤ 120 ∧ np ≤ 2000 ∧ na ≤ 10) {L0 : List Int32} (hs : cS E ca zw 8 L0) (f t : Int32) : CtU l yX5_gatherSeen wsX5_gatherSeen ({ frames := 4, cells := 0, slots := 0, locals := 87 }) E [.ref (ca 0), .int f, .int t] zw (fun w1 => cS E ca w1 8 (insN (inSp (ar 12) f t) (sNm ar) np) ∧ nFr 8 zw w1) 0 0 := by
  refine Ct.of (cc := cX5_gatherSeen) (nL := 5) (ret := none) (by decide) rfl (Nat.le_of_ble_eq_true rfl) ?_
  intro p e s m args below meth c C hr hnm
  refine v_eqlv (lv9 := [(0, .ref (ca 0)), (1, .int f), (2, .int t)]) rfl ?_
  obtain ⟨hX, h4, h5, h6, h7, hL1, hL2, hL3⟩ := id hC
  obtain ⟨fs1, hq1⟩ := hL1.cell
  obtain ⟨fs2, hq2⟩ := hL2.cell
  obtain ⟨fs3, hq3⟩ := hL3.cell
  obtain ⟨fz, g8, g9, hU, hS, hl⟩ := id hs
  refine v_aload_n C dX5_gatherSeen_0 rfl rfl ?_
  refine v_get (v := .ref (ca 8)) C inX5_gatherSeen_X5 0 hX rfl 6 (by decide) kwX5_gatherSeen_36 rfl rfl dX5_gatherSeen_1 ?_
  refine v_callVu C (c_X1_makeEmpty l E zw g8) (cwV 0 C.1.2.2.2.2 gX5_gatherSeen_X1_makeEmpty rfl rfl rfl (by decide +kernel) ⟨by decide, by decide⟩) 8 2 g8 rfl rfl rfl (Nat.le_of_ble_eq_true rfl) dX5_gatherSeen_4 ⟨Nat.le_of_ble_eq_true rfl, Nat.le_of_ble_eq_true rfl⟩ (fun zw hp => ?_)
  obtain ⟨g8, hO⟩ := hp
  have hF := nFr.of hO
  have hC := hC.n hF (by decide) (by decide)
  have hs : cS E ca zw 8 [] := ⟨fz, g8, (hO.2 9 (by decide)).trans g9, UL.nil _, List.Pairwise.nil, Nat.zero_le _⟩
  skip
  refine v_iconst (v := 0) C dX5_gatherSeen_7 (by decide) ?_
  refine v_tov nI_0.symm ?_
  refine v_istore_n C dX5_gatherSeen_8 rfl (by decide) rfl ?_
  refine lp_X5_gatherSeen C hb ?_ np 0 (Nat.zero_add _) zw hC hF hs
  intro zw hC hF hs
  refine v_vret C hr dX5_gatherSeen_61 (Nat.le_of_ble_eq_true rfl) (Nat.le_of_ble_eq_true rfl) ?_
  exact ⟨rfl, ⟨hs, hF⟩⟩
