theorem nI_ex {x : Int32} {n : Nat} (h1 : 0 ≤ x.toInt) (h2 : x.toInt < n) : ∃ j, j < n ∧ x = nI j := ⟨x.toInt.toNat, by omega, nI_nat h1⟩
theorem nI_ex2 {x : Int32} {n : Nat} (h1 : 0 ≤ x.toInt) (h2 : x.toInt ≤ n) : ∃ j, j ≤ n ∧ x = nI j := ⟨x.toInt.toNat, by omega, nI_nat h1⟩
theorem i6 (x : Int32) : x = 0 ∨ x = 1 ∨ x = 2 ∨ x = 3 ∨ x = 4 ∨ x = 5 ∨ (x.toInt < 0 ∨ 5 < x.toInt) := by
  have hk : ∀ k : Nat, k < 6 → x.toInt = k → x = nI k := fun k h1 h2 => nI_of_toInt h2 (by omega)
  rcases (show x.toInt = (0 : Nat) ∨ x.toInt = (1 : Nat) ∨ x.toInt = (2 : Nat) ∨ x.toInt = (3 : Nat) ∨ x.toInt = (4 : Nat) ∨ x.toInt = (5 : Nat) ∨ (x.toInt < 0 ∨ 5 < x.toInt) by omega) with h | h | h | h | h | h | h
  · exact Or.inl (hk _ (by decide) h)
  · exact Or.inr (Or.inl (hk _ (by decide) h))
  · exact Or.inr (Or.inr (Or.inl (hk _ (by decide) h)))
  · exact Or.inr (Or.inr (Or.inr (Or.inl (hk _ (by decide) h))))
  · exact Or.inr (Or.inr (Or.inr (Or.inr (Or.inl (hk _ (by decide) h)))))
  · exact Or.inr (Or.inr (Or.inr (Or.inr (Or.inr (Or.inl (hk _ (by decide) h))))))
  · exact Or.inr (Or.inr (Or.inr (Or.inr (Or.inr (Or.inr h)))))
theorem serW_out {ar : Nat → Nat → Int32} {i : Nat} {x : Int32} (h : x.toInt < 0 ∨ 5 < x.toInt) : serW ar i x = (-2) := by
  have hn : ∀ k : Nat, k < 6 → ¬ x = nI k := fun k hk e => by
    rw [e, nI_toInt (by omega)] at h
    omega
  unfold serW
  rw [if_neg (show ¬ x = 0 from hn 0 (by decide)), if_neg (show ¬ x = 1 from hn 1 (by decide)), if_neg (show ¬ x = 2 from hn 2 (by decide)), if_neg (show ¬ x = 3 from hn 3 (by decide)), if_neg (show ¬ x = 4 from hn 4 (by decide)), if_neg (show ¬ x = 5 from hn 5 (by decide))]
theorem inX5_series_X5 : ∀ x ∈ wsX50, x ∈ wsX5_series := by decide +kernel
theorem kwX5_series_10 : Cond.fieldLink RX5 10 "SeriesMarks" "allSeries" "Ljava/util/ArrayList;" ∈ wsX5_series := by decide +kernel
theorem kwX5_series_cl64 : Cond.classLink RX5 64 "SeriesMarks$Series" ∈ wsX5_series := by decide +kernel
theorem inX5_series_X3 : ∀ x ∈ wsX30, x ∈ wsX5_series := by decide +kernel
set_option maxHeartbeats 4000000 in
set_option maxRecDepth 100000 in
theorem c_X5_series (l : Launch) (E : gE) (zw : va_W) {ca : Nat → Nat} {t0 : Int32} {ar : Nat → Nat → Int32} {dr ch : Nat → Int32} {ns np na : Nat} {qe : Nat → Nat} {pl : Nat → Nat → Nat} (hC : CF E ca zw t0 ar dr ch ns np na qe pl) (hb : ns ≤ 120 ∧ np ≤ 2000 ∧ na ≤ 10) (i0 x : Int32) : CtI l yX5_series wsX5_series ({ frames := 3, cells := 0, slots := 0, locals := 64 }) E [.ref (ca 0), .int i0, .int x] zw (fun r w1 => zw = w1 ∧ r = if 0 ≤ i0.toInt ∧ i0.toInt < ns then serW ar i0.toNatClampNeg x else (-1)) 0 0 := by
  refine Ct.of (cc := cX5_series) (nL := 4) (ret := (some .int)) (by decide) rfl (Nat.le_of_ble_eq_true rfl) ?_
  intro p e s m args below meth c C hr hnm
  refine v_eqlv (lv9 := [(0, .ref (ca 0)), (1, .int i0), (2, .int x)]) rfl ?_
  obtain ⟨hX, h4, h5, h6, h7, hL1, hL2, hL3⟩ := id hC
  obtain ⟨fs1, hq1⟩ := hL1.cell
  obtain ⟨fs2, hq2⟩ := hL2.cell
  obtain ⟨fs3, hq3⟩ := hL3.cell
  refine v_aload_n C dX5_series_0 rfl rfl ?_
  refine v_iload_n C dX5_series_1 rfl rfl ?_
  refine v_callVi C (c_X5_isSeries l E zw hC hb _) (cwV 1 C.1.2.2.2.2 gX5_series_X5_isSeries rfl rfl rfl (by decide +kernel) ⟨by decide, by decide⟩) 0 6 hX rfl rfl rfl (Nat.le_of_ble_eq_true rfl) dX5_series_2 ⟨Nat.le_of_ble_eq_true rfl, Nat.le_of_ble_eq_true rfl⟩ (fun r w1 hp => ?_)
  obtain ⟨rfl, hr9⟩ := hp
  rw [hr9]
  clear hr9
  refine v_if_ne (tgt := 10) C dX5_series_5 (by decide) (fun c5 => ?_) (fun c5 => ?_)
  · have c5 := b01_n c5
    obtain ⟨j, hj, rfl⟩ := nI_ex c5.1 c5.2
    have ej := nI_clamp (n := j) (by omega)
    refine v_aload_n C dX5_series_10 rfl rfl ?_
    refine v_get (v := .ref (ca 1)) C inX5_series_X5 0 hX rfl 1 (by decide) kwX5_series_10 rfl rfl dX5_series_11 ?_
    refine v_iload_n C dX5_series_14 rfl rfl ?_
    refine v_callVa C (hL1.get l (j := j) hj) (cwV 1 C.1.2.2.2.2 gX5_series_Jx4a65c_get_915e3 rfl rfl rfl (by decide +kernel) ⟨by decide, by decide⟩) 1 0 hq1 rfl rfl rfl (Nat.le_of_ble_eq_true rfl) dX5_series_15 ⟨Nat.le_of_ble_eq_true rfl, Nat.le_of_ble_eq_true rfl⟩ (fun rq w1 hp => ?_)
    obtain ⟨rfl, hob⟩ := hp
    refine v_cast C kwX5_series_cl64 (pl 1 j) hob rfl dX5_series_18 ?_
    refine v_astore_n C dX5_series_21 rfl (by decide) rfl ?_
    refine v_iload_n C dX5_series_22 rfl rfl ?_
    rcases i6 x with rfl | rfl | rfl | rfl | rfl | rfl | hx
    · refine v_tableIn (tgt := 60) C dX5_series_23 (by decide) (by decide) rfl (by decide) ?_
      refine v_aload_n C dX5_series_60 rfl rfl ?_
      refine v_getN C inX5_series_X3 rfl (pl 1 j) hob rfl 0 (by decide) (by decide +kernel) rfl dX5_series_61 ?_
      refine v_iret C hr dX5_series_64 (Nat.le_of_ble_eq_true rfl) (Nat.le_of_ble_eq_true rfl) ?_
      exact ⟨_, rfl, ⟨rfl, by first | (rw [if_neg c5]; done) | (rw [if_pos c5, ej, serW_out hx]; done) | (rw [if_pos c5, ej]; simp [serW]; done)⟩⟩
    · refine v_tableIn (tgt := 65) C dX5_series_23 (by decide) (by decide) rfl (by decide) ?_
      refine v_aload_n C dX5_series_65 rfl rfl ?_
      refine v_getN C inX5_series_X3 rfl (pl 1 j) hob rfl 4 (by decide) (by decide +kernel) rfl dX5_series_66 ?_
      refine v_iret C hr dX5_series_69 (Nat.le_of_ble_eq_true rfl) (Nat.le_of_ble_eq_true rfl) ?_
      exact ⟨_, rfl, ⟨rfl, by first | (rw [if_neg c5]; done) | (rw [if_pos c5, ej, serW_out hx]; done) | (rw [if_pos c5, ej]; simp [serW]; done)⟩⟩
    · refine v_tableIn (tgt := 70) C dX5_series_23 (by decide) (by decide) rfl (by decide) ?_
      refine v_aload_n C dX5_series_70 rfl rfl ?_
      refine v_getN C inX5_series_X3 rfl (pl 1 j) hob rfl 3 (by decide) (by decide +kernel) rfl dX5_series_71 ?_
      refine v_iret C hr dX5_series_74 (Nat.le_of_ble_eq_true rfl) (Nat.le_of_ble_eq_true rfl) ?_
      exact ⟨_, rfl, ⟨rfl, by first | (rw [if_neg c5]; done) | (rw [if_pos c5, ej, serW_out hx]; done) | (rw [if_pos c5, ej]; simp [serW]; done)⟩⟩
    · refine v_tableIn (tgt := 75) C dX5_series_23 (by decide) (by decide) rfl (by decide) ?_
      refine v_aload_n C dX5_series_75 rfl rfl ?_
      refine v_getN C inX5_series_X3 rfl (pl 1 j) hob rfl 1 (by decide) (by decide +kernel) rfl dX5_series_76 ?_
      refine v_iret C hr dX5_series_79 (Nat.le_of_ble_eq_true rfl) (Nat.le_of_ble_eq_true rfl) ?_
      exact ⟨_, rfl, ⟨rfl, by first | (rw [if_neg c5]; done) | (rw [if_pos c5, ej, serW_out hx]; done) | (rw [if_pos c5, ej]; simp [serW]; done)⟩⟩
    · refine v_tableIn (tgt := 80) C dX5_series_23 (by decide) (by decide) rfl (by decide) ?_
      refine v_aload_n C dX5_series_80 rfl rfl ?_
      refine v_getN C inX5_series_X3 rfl (pl 1 j) hob rfl 2 (by decide) (by decide +kernel) rfl dX5_series_81 ?_
      refine v_iret C hr dX5_series_84 (Nat.le_of_ble_eq_true rfl) (Nat.le_of_ble_eq_true rfl) ?_
      exact ⟨_, rfl, ⟨rfl, by first | (rw [if_neg c5]; done) | (rw [if_pos c5, ej, serW_out hx]; done) | (rw [if_pos c5, ej]; simp [serW]; done)⟩⟩
    · refine v_tableIn (tgt := 85) C dX5_series_23 (by decide) (by decide) rfl (by decide) ?_
      refine v_aload_n C dX5_series_85 rfl rfl ?_
      refine v_getN C inX5_series_X3 rfl (pl 1 j) hob rfl 5 (by decide) (by decide +kernel) rfl dX5_series_86 ?_
      refine v_iret C hr dX5_series_89 (Nat.le_of_ble_eq_true rfl) (Nat.le_of_ble_eq_true rfl) ?_
      exact ⟨_, rfl, ⟨rfl, by first | (rw [if_neg c5]; done) | (rw [if_pos c5, ej, serW_out hx]; done) | (rw [if_pos c5, ej]; simp [serW]; done)⟩⟩
    · refine v_tableOut (tgt := 90) C dX5_series_23 hx (by decide) ?_
      refine v_bipush (v := (-2)) C dX5_series_90 (by decide) ?_
      refine v_iret C hr dX5_series_92 (Nat.le_of_ble_eq_true rfl) (Nat.le_of_ble_eq_true rfl) ?_
      exact ⟨_, rfl, ⟨rfl, by first | (rw [if_neg c5]; done) | (rw [if_pos c5, ej, serW_out hx]; done) | (rw [if_pos c5, ej]; simp [serW]; done)⟩⟩
  · have c5 := b01_0 c5
    refine v_iconst (v := (-1)) C dX5_series_8 (by decide) ?_
    refine v_iret C hr dX5_series_9 (Nat.le_of_ble_eq_true rfl) (Nat.le_of_ble_eq_true rfl) ?_
    exact ⟨_, rfl, ⟨rfl, by first | (rw [if_neg c5]; done) | (rw [if_pos c5, ej, serW_out hx]; done) | (rw [if_pos c5, ej]; simp [serW]; done)⟩⟩
set_option maxHeartbeats 4000000 in
set_option maxRecDepth 100000 in
theorem c_X5_find (l : Launch) (E : gE) (zw : va_W) {ca : Nat → Nat} {t0 : Int32} {ar : Nat → Nat → Int32} {dr ch : Nat → Int32} {ns np na : Nat} {qe : Nat → Nat} {pl : Nat → Nat → Nat} (hC : CF E ca zw t0 ar dr ch ns np na qe pl) (hb : ns ≤ 120 ∧ np ≤ 2000 ∧ na ≤ 10) (x : Int32) : CtI l yX5_find wsX5_find ({ frames := 4, cells := 0, slots := 0, locals := 86 }) E [.ref (ca 0), .int x] zw (fun r w1 => zw = w1 ∧ r = if 0 ≤ x.toInt ∧ x.toInt ≤ 262143 then spl (ar 4) x ns else (-2)) 0 0 := by
  refine Ct.of (cc := cX5_find) (nL := 2) (ret := (some .int)) (by decide) rfl (Nat.le_of_ble_eq_true rfl) ?_
  intro p e s m args below meth c C hr hnm
  refine v_eqlv (lv9 := [(0, .ref (ca 0)), (1, .int x)]) rfl ?_
  obtain ⟨hX, h4, h5, h6, h7, hL1, hL2, hL3⟩ := id hC
  obtain ⟨fs1, hq1⟩ := hL1.cell
  obtain ⟨fs2, hq2⟩ := hL2.cell
  obtain ⟨fs3, hq3⟩ := hL3.cell
  refine v_iload_n C dX5_find_0 rfl rfl ?_
  refine v_callSi C (c_X5_isName l E zw _ ) (va_cwS 1 C.1.2.2.2.2 gX5_find_X5_isName rfl rfl rfl (by decide +kernel) ⟨by decide, by decide⟩) rfl rfl (Nat.le_of_ble_eq_true rfl) dX5_find_1 ⟨Nat.le_of_ble_eq_true rfl, Nat.le_of_ble_eq_true rfl⟩ (fun r w1 hp => ?_)
  obtain ⟨rfl, hr9⟩ := hp
  rw [hr9]
  clear hr9
  refine v_if_ne (tgt := 10) C dX5_find_4 (by decide) (fun c4 => ?_) (fun c4 => ?_)
  · have c4 := b01_n c4
    refine v_aload_n C dX5_find_10 rfl rfl ?_
    refine v_iload_n C dX5_find_11 rfl rfl ?_
    refine v_callVi C (c_X5_numberOf l E zw hC hb _) (cwV 1 C.1.2.2.2.2 gX5_find_X5_numberOf rfl rfl rfl (by decide +kernel) ⟨by decide, by decide⟩) 0 6 hX rfl rfl rfl (Nat.le_of_ble_eq_true rfl) dX5_find_12 ⟨Nat.le_of_ble_eq_true rfl, Nat.le_of_ble_eq_true rfl⟩ (fun r w1 hp => ?_)
    obtain ⟨rfl, hr9⟩ := hp
    rw [hr9]
    clear hr9
    refine v_iret C hr dX5_find_15 (Nat.le_of_ble_eq_true rfl) (Nat.le_of_ble_eq_true rfl) ?_
    exact ⟨_, rfl, ⟨rfl, by first | exact (if_pos c4).symm | exact (if_neg c4).symm⟩⟩
  · have c4 := b01_0 c4
    refine v_bipush (v := (-2)) C dX5_find_7 (by decide) ?_
    refine v_iret C hr dX5_find_9 (Nat.le_of_ble_eq_true rfl) (Nat.le_of_ble_eq_true rfl) ?_
    exact ⟨_, rfl, ⟨rfl, by first | exact (if_pos c4).symm | exact (if_neg c4).symm⟩⟩
theorem inX5_growth_X5 : ∀ x ∈ wsX50, x ∈ wsX5_growth := by decide +kernel
theorem kwX5_growth_10 : Cond.fieldLink RX5 10 "SeriesMarks" "allSeries" "Ljava/util/ArrayList;" ∈ wsX5_growth := by decide +kernel
theorem kwX5_growth_cl64 : Cond.classLink RX5 64 "SeriesMarks$Series" ∈ wsX5_growth := by decide +kernel
theorem inX5_growth_X3 : ∀ x ∈ wsX30, x ∈ wsX5_growth := by decide +kernel
theorem kwX5_growth_c112 : Cond.constantLong RX5 112 (-2) ∈ wsX5_growth := by decide +kernel
theorem kwX5_growth_c106 : Cond.constantLong RX5 106 (-1) ∈ wsX5_growth := by decide +kernel
set_option maxHeartbeats 4000000 in
set_option maxRecDepth 100000 in
theorem c_X5_growth (l : Launch) (E : gE) (zw : va_W) {ca : Nat → Nat} {t0 : Int32} {ar : Nat → Nat → Int32} {dr ch : Nat → Int32} {ns np na : Nat} {qe : Nat → Nat} {pl : Nat → Nat → Nat} (hC : CF E ca zw t0 ar dr ch ns np na qe pl) (hb : ns ≤ 120 ∧ np ≤ 2000 ∧ na ≤ 10) (i0 f t : Int32) : CtL l yX5_growth wsX5_growth ({ frames := 4, cells := 0, slots := 0, locals := 92 }) E [.ref (ca 0), .int i0, .int f, .int t] zw (fun r w1 => zw = w1 ∧ r = if 0 ≤ i0.toInt ∧ i0.toInt < ns then (if 0 ≤ t.toInt ∧ t.toInt ≤ t0.toInt ∧ 0 ≤ f.toInt ∧ f.toInt ≤ t.toInt then smL (fun k => inSp (ar 12) f t k && decide (sNm ar k &&& dgs 63 6 = ar 4 i0.toNatClampNeg &&& dgs 63 6)) (ar 13) np else (-2)) else (-1)) 0 0 := by
  refine Ct.of (cc := cX5_growth) (nL := 4) (ret := (some .long)) (by decide) rfl (Nat.le_of_ble_eq_true rfl) ?_
  intro p e s m args below meth c C hr hnm
  refine v_eqlv (lv9 := [(0, .ref (ca 0)), (1, .int i0), (2, .int f), (3, .int t)]) rfl ?_
  obtain ⟨hX, h4, h5, h6, h7, hL1, hL2, hL3⟩ := id hC
  obtain ⟨fs1, hq1⟩ := hL1.cell
  obtain ⟨fs2, hq2⟩ := hL2.cell
  obtain ⟨fs3, hq3⟩ := hL3.cell
  refine v_aload_n C dX5_growth_0 rfl rfl ?_
  refine v_iload_n C dX5_growth_1 rfl rfl ?_
  refine v_callVi C (c_X5_isSeries l E zw hC hb _) (cwV 1 C.1.2.2.2.2 gX5_growth_X5_isSeries rfl rfl rfl (by decide +kernel) ⟨by decide, by decide⟩) 0 6 hX rfl rfl rfl (Nat.le_of_ble_eq_true rfl) dX5_growth_2 ⟨Nat.le_of_ble_eq_true rfl, Nat.le_of_ble_eq_true rfl⟩ (fun r w1 hp => ?_)
  obtain ⟨rfl, hr9⟩ := hp
  rw [hr9]
  clear hr9
  refine v_if_ne (tgt := 12) C dX5_growth_5 (by decide) (fun c5 => ?_) (fun c5 => ?_)
  · have c5 := b01_n c5
    obtain ⟨j, hj, rfl⟩ := nI_ex c5.1 c5.2
    have ej := nI_clamp (n := j) (by omega)
    refine v_aload_n C dX5_growth_12 rfl rfl ?_
    refine v_iload_n C dX5_growth_13 rfl rfl ?_
    refine v_iload_n C dX5_growth_14 rfl rfl ?_
    refine v_callVi C (c_X5_isSpan l E zw hC hb _ _) (cwV 2 C.1.2.2.2.2 gX5_growth_X5_isSpan rfl rfl rfl (by decide +kernel) ⟨by decide, by decide⟩) 0 6 hX rfl rfl rfl (Nat.le_of_ble_eq_true rfl) dX5_growth_15 ⟨Nat.le_of_ble_eq_true rfl, Nat.le_of_ble_eq_true rfl⟩ (fun r w1 hp => ?_)
    obtain ⟨rfl, hr9⟩ := hp
    rw [hr9]
    clear hr9
    refine v_if_ne (tgt := 25) C dX5_growth_18 (by decide) (fun c18 => ?_) (fun c18 => ?_)
    · have c18 := b01_n c18
      refine v_aload_n C dX5_growth_25 rfl rfl ?_
      refine v_bipush (v := 63) C dX5_growth_26 (by decide) ?_
      refine v_callSi C (c_X5_digitsOf l E zw _ ) (va_cwS 1 C.1.2.2.2.2 gX5_growth_X5_digitsOf rfl rfl rfl (by decide +kernel) ⟨by decide, by decide⟩) rfl rfl (Nat.le_of_ble_eq_true rfl) dX5_growth_28 ⟨Nat.le_of_ble_eq_true rfl, Nat.le_of_ble_eq_true rfl⟩ (fun r w1 hp => ?_)
      obtain ⟨rfl, hr9⟩ := hp
      rw [hr9]
      clear hr9
      refine v_aload_n C dX5_growth_31 rfl rfl ?_
      refine v_get (v := .ref (ca 1)) C inX5_growth_X5 0 hX rfl 1 (by decide) kwX5_growth_10 rfl rfl dX5_growth_32 ?_
      refine v_iload_n C dX5_growth_35 rfl rfl ?_
      refine v_callVa C (hL1.get l (j := j) hj) (cwV 1 C.1.2.2.2.2 gX5_growth_Jx4a65c_get_915e3 rfl rfl rfl (by decide +kernel) ⟨by decide, by decide⟩) 1 0 hq1 rfl rfl rfl (Nat.le_of_ble_eq_true rfl) dX5_growth_36 ⟨Nat.le_of_ble_eq_true rfl, Nat.le_of_ble_eq_true rfl⟩ (fun rq w1 hp => ?_)
      obtain ⟨rfl, hob⟩ := hp
      refine v_cast C kwX5_growth_cl64 (pl 1 j) hob rfl dX5_growth_39 ?_
      refine v_getN C inX5_growth_X3 rfl (pl 1 j) hob rfl 0 (by decide) (by decide +kernel) rfl dX5_growth_42 ?_
      refine v_at (pc9 := 45) rfl ?_
      refine v_iload_n C dX5_growth_45 rfl rfl ?_
      refine v_iload_n C dX5_growth_46 rfl rfl ?_
      refine v_callVl C (c_X5_growthOfAlike l E zw hC hb _ _ _ _) (cwV 4 C.1.2.2.2.2 gX5_growth_X5_growthOfAlike rfl rfl rfl (by decide +kernel) ⟨by decide, by decide⟩) 0 6 hX rfl rfl rfl (Nat.le_of_ble_eq_true rfl) dX5_growth_47 ⟨Nat.le_of_ble_eq_true rfl, Nat.le_of_ble_eq_true rfl⟩ (fun r w1 hp => ?_)
      obtain ⟨rfl, hr9⟩ := hp
      rw [hr9]
      clear hr9
      refine v_lret C hr dX5_growth_50 (Nat.le_of_ble_eq_true rfl) (Nat.le_of_ble_eq_true rfl) ?_
      exact ⟨_, rfl, ⟨rfl, by first | (rw [if_neg c5] <;> rfl) | (rw [if_pos c5, if_neg c18] <;> rfl) | (rw [if_pos c5, if_pos c18, ej]; done)⟩⟩
    · have c18 := b01_0 c18
      refine v_ldc2 C kwX5_growth_c112 dX5_growth_21 ?_
      refine v_lret C hr dX5_growth_24 (Nat.le_of_ble_eq_true rfl) (Nat.le_of_ble_eq_true rfl) ?_
      exact ⟨_, rfl, ⟨rfl, by first | (rw [if_neg c5] <;> rfl) | (rw [if_pos c5, if_neg c18] <;> rfl) | (rw [if_pos c5, if_pos c18, ej]; done)⟩⟩
  · have c5 := b01_0 c5
    refine v_ldc2 C kwX5_growth_c106 dX5_growth_8 ?_
    refine v_lret C hr dX5_growth_11 (Nat.le_of_ble_eq_true rfl) (Nat.le_of_ble_eq_true rfl) ?_
    exact ⟨_, rfl, ⟨rfl, by first | (rw [if_neg c5] <;> rfl) | (rw [if_pos c5, if_neg c18] <;> rfl) | (rw [if_pos c5, if_pos c18, ej]; done)⟩⟩
theorem inX5_seen_X5 : ∀ x ∈ wsX50, x ∈ wsX5_seen := by decide +kernel
theorem kwX5_seen_36 : Cond.fieldLink RX5 36 "SeriesMarks" "seenNames" "LSeriesMarks$NameSet;" ∈ wsX5_seen := by decide +kernel
theorem inX5_seen_X1 : ∀ x ∈ wsX10, x ∈ wsX5_seen := by decide +kernel
set_option maxHeartbeats 4000000 in
set_option maxRecDepth 100000 in
theorem c_X5_seen (l : Launch) (E : gE) (zw : va_W) {ca : Nat → Nat} {t0 : Int32} {ar : Nat → Nat → Int32} {dr ch : Nat → Int32} {ns np na : Nat} {qe : Nat → Nat} {pl : Nat → Nat → Nat} (hC : CF E ca zw t0 ar dr ch ns np na qe pl) (hb : ns ≤ 120 ∧ np ≤ 2000 ∧ na ≤ 10) {L0 L1 : List Int32} (hs : cS E ca zw 8 L0) (hw : cS E ca zw 10 L1) (f t : Int32) : CtI l yX5_seen wsX5_seen ({ frames := 5, cells := 0, slots := 0, locals := 111 }) E [.ref (ca 0), .int f, .int t] zw (fun r w1 => wFr zw w1 ∧ (∃ L, cS E ca w1 8 L) ∧ (∃ L, cS E ca w1 10 L) ∧ r = if 0 ≤ t.toInt ∧ t.toInt ≤ t0.toInt ∧ 0 ≤ f.toInt ∧ f.toInt ≤ t.toInt then nI (insN (inSp (ar 12) f t) (sNm ar) np).length else (-2)) 0 0 := by
  refine Ct.of (cc := cX5_seen) (nL := 3) (ret := (some .int)) (by decide) rfl (Nat.le_of_ble_eq_true rfl) ?_
  intro p e s m args below meth c C hr hnm
  refine v_eqlv (lv9 := [(0, .ref (ca 0)), (1, .int f), (2, .int t)]) rfl ?_
  obtain ⟨hX, h4, h5, h6, h7, hL1, hL2, hL3⟩ := id hC
  obtain ⟨fs1, hq1⟩ := hL1.cell
  obtain ⟨fs2, hq2⟩ := hL2.cell
  obtain ⟨fs3, hq3⟩ := hL3.cell
  refine v_aload_n C dX5_seen_0 rfl rfl ?_
  refine v_iload_n C dX5_seen_1 rfl rfl ?_
  refine v_iload_n C dX5_seen_2 rfl rfl ?_
  refine v_callVi C (c_X5_isSpan l E zw hC hb _ _) (cwV 2 C.1.2.2.2.2 gX5_seen_X5_isSpan rfl rfl rfl (by decide +kernel) ⟨by decide, by decide⟩) 0 6 hX rfl rfl rfl (Nat.le_of_ble_eq_true rfl) dX5_seen_3 ⟨Nat.le_of_ble_eq_true rfl, Nat.le_of_ble_eq_true rfl⟩ (fun r w1 hp => ?_)
  obtain ⟨rfl, hr9⟩ := hp
  rw [hr9]
  clear hr9
  refine v_if_ne (tgt := 12) C dX5_seen_6 (by decide) (fun c6 => ?_) (fun c6 => ?_)
  · have c6 := b01_n c6
    refine v_aload_n C dX5_seen_12 rfl rfl ?_
    refine v_iload_n C dX5_seen_13 rfl rfl ?_
    refine v_iload_n C dX5_seen_14 rfl rfl ?_
    refine v_callVu C (c_X5_gatherSeen l E zw hC hb hs f t) (cwV 2 C.1.2.2.2.2 gX5_seen_X5_gatherSeen rfl rfl rfl (by decide +kernel) ⟨by decide, by decide⟩) 0 6 hX rfl rfl rfl (Nat.le_of_ble_eq_true rfl) dX5_seen_15 ⟨Nat.le_of_ble_eq_true rfl, Nat.le_of_ble_eq_true rfl⟩ (fun zw hp => ?_)
    obtain ⟨hs, hF8⟩ := hp
    have hC := hC.n hF8 (by decide) (by decide)
    have hw := hw.keep (hF8.2 10 (by decide) (by decide)) (hF8.2 11 (by decide) (by decide))
    have hF := wFr.n8 hF8
    have hX := hC.1
    have hlS := insN_len (inSp (ar 12) f t) (sNm ar) np
    obtain ⟨fz, g8, g9, hU, hS, hl⟩ := id hs
    refine v_aload_n C dX5_seen_18 rfl rfl ?_
    refine v_get (v := .ref (ca 8)) C inX5_seen_X5 0 hX rfl 6 (by decide) kwX5_seen_36 rfl rfl dX5_seen_19 ?_
    refine v_getN C inX5_seen_X1 rfl 8 g8 rfl 1 (by decide) (by decide +kernel) rfl dX5_seen_22 ?_
    refine v_iret C hr dX5_seen_25 (Nat.le_of_ble_eq_true rfl) (Nat.le_of_ble_eq_true rfl) ?_
    exact ⟨_, rfl, (by first | exact ⟨wFr.rf _, ⟨_, hs⟩, ⟨_, hw⟩, by rw [if_neg c6]; done⟩ | exact ⟨hF, ⟨_, hs⟩, ⟨_, hw⟩, by rw [if_pos c6]; done⟩)⟩
  · have c6 := b01_0 c6
    refine v_bipush (v := (-2)) C dX5_seen_9 (by decide) ?_
    refine v_iret C hr dX5_seen_11 (Nat.le_of_ble_eq_true rfl) (Nat.le_of_ble_eq_true rfl) ?_
    exact ⟨_, rfl, (by first | exact ⟨wFr.rf _, ⟨_, hs⟩, ⟨_, hw⟩, by rw [if_neg c6]; done⟩ | exact ⟨hF, ⟨_, hs⟩, ⟨_, hw⟩, by rw [if_pos c6]; done⟩)⟩
set_option maxHeartbeats 4000000 in
set_option maxRecDepth 100000 in
theorem c_X5_values (l : Launch) (E : gE) (zw : va_W) {ca : Nat → Nat} {t0 : Int32} {ar : Nat → Nat → Int32} {dr ch : Nat → Int32} {ns np na : Nat} {qe : Nat → Nat} {pl : Nat → Nat → Nat} (hC : CF E ca zw t0 ar dr ch ns np na qe pl) (hb : ns ≤ 120 ∧ np ≤ 2000 ∧ na ≤ 10) {L0 L1 : List Int32} (hs : cS E ca zw 8 L0) (hw : cS E ca zw 10 L1) (mk f t : Int32) : CtI l yX5_values wsX5_values ({ frames := 5, cells := 0, slots := 0, locals := 111 }) E [.ref (ca 0), .int mk, .int f, .int t] zw (fun r w1 => wFr zw w1 ∧ (∃ L, cS E ca w1 8 L) ∧ (∃ L, cS E ca w1 10 L) ∧ r = if 0 ≤ mk.toInt ∧ mk.toInt ≤ 5 then (if 0 ≤ t.toInt ∧ t.toInt ≤ t0.toInt ∧ 0 ≤ f.toInt ∧ f.toInt ≤ t.toInt then nI (LN (insN (inSp (ar 12) f t) (sNm ar) np) (dgs (63 ^^^ (63 ^^^ ((1 : Int32) <<< (mk &&& 31)))) 6) (insN (inSp (ar 12) f t) (sNm ar) np).length).length else (-2)) else (-1)) 0 0 := by
  refine Ct.of (cc := cX5_values) (nL := 4) (ret := (some .int)) (by decide) rfl (Nat.le_of_ble_eq_true rfl) ?_
  intro p e s m args below meth c C hr hnm
  refine v_eqlv (lv9 := [(0, .ref (ca 0)), (1, .int mk), (2, .int f), (3, .int t)]) rfl ?_
  obtain ⟨hX, h4, h5, h6, h7, hL1, hL2, hL3⟩ := id hC
  obtain ⟨fs1, hq1⟩ := hL1.cell
  obtain ⟨fs2, hq2⟩ := hL2.cell
  obtain ⟨fs3, hq3⟩ := hL3.cell
  refine v_iload_n C dX5_values_0 rfl rfl ?_
  refine v_callSi C (c_X5_isMark l E zw _ ) (va_cwS 1 C.1.2.2.2.2 gX5_values_X5_isMark rfl rfl rfl (by decide +kernel) ⟨by decide, by decide⟩) rfl rfl (Nat.le_of_ble_eq_true rfl) dX5_values_1 ⟨Nat.le_of_ble_eq_true rfl, Nat.le_of_ble_eq_true rfl⟩ (fun r w1 hp => ?_)
  obtain ⟨rfl, hr9⟩ := hp
  rw [hr9]
  clear hr9
  refine v_if_ne (tgt := 9) C dX5_values_4 (by decide) (fun c4 => ?_) (fun c4 => ?_)
  · have c4 := b01_n c4
    refine v_aload_n C dX5_values_9 rfl rfl ?_
    refine v_iload_n C dX5_values_10 rfl rfl ?_
    refine v_iload_n C dX5_values_11 rfl rfl ?_
    refine v_callVi C (c_X5_isSpan l E zw hC hb _ _) (cwV 2 C.1.2.2.2.2 gX5_values_X5_isSpan rfl rfl rfl (by decide +kernel) ⟨by decide, by decide⟩) 0 6 hX rfl rfl rfl (Nat.le_of_ble_eq_true rfl) dX5_values_12 ⟨Nat.le_of_ble_eq_true rfl, Nat.le_of_ble_eq_true rfl⟩ (fun r w1 hp => ?_)
    obtain ⟨rfl, hr9⟩ := hp
    rw [hr9]
    clear hr9
    refine v_if_ne (tgt := 21) C dX5_values_15 (by decide) (fun c15 => ?_) (fun c15 => ?_)
    · have c15 := b01_n c15
      refine v_aload_n C dX5_values_21 rfl rfl ?_
      refine v_iload_n C dX5_values_22 rfl rfl ?_
      refine v_iload_n C dX5_values_23 rfl rfl ?_
      refine v_callVu C (c_X5_gatherSeen l E zw hC hb hs f t) (cwV 2 C.1.2.2.2.2 gX5_values_X5_gatherSeen rfl rfl rfl (by decide +kernel) ⟨by decide, by decide⟩) 0 6 hX rfl rfl rfl (Nat.le_of_ble_eq_true rfl) dX5_values_24 ⟨Nat.le_of_ble_eq_true rfl, Nat.le_of_ble_eq_true rfl⟩ (fun zw hp => ?_)
      obtain ⟨hs, hF8⟩ := hp
      have hC := hC.n hF8 (by decide) (by decide)
      have hw := hw.keep (hF8.2 10 (by decide) (by decide)) (hF8.2 11 (by decide) (by decide))
      have hF := wFr.n8 hF8
      have hX := hC.1
      have hlS := insN_len (inSp (ar 12) f t) (sNm ar) np
      obtain ⟨fz, g8, g9, hU, hS, hl⟩ := id hs
      refine v_aload_n C dX5_values_27 rfl rfl ?_
      refine v_bipush (v := 63) C dX5_values_28 (by decide) ?_
      refine v_iconst (v := 1) C dX5_values_30 (by decide) ?_
      refine v_iload_n C dX5_values_31 rfl rfl ?_
      refine v_ishl C dX5_values_32 ?_
      refine v_at (pc9 := 33) rfl ?_
      refine v_ixor C dX5_values_33 ?_
      refine v_callVi C (c_X5_namesLeftWithout l E zw hC hb hs hw _) (cwV 1 C.1.2.2.2.2 gX5_values_X5_namesLeftWithout rfl rfl rfl (by decide +kernel) ⟨by decide, by decide⟩) 0 6 hX rfl rfl rfl (Nat.le_of_ble_eq_true rfl) dX5_values_34 ⟨Nat.le_of_ble_eq_true rfl, Nat.le_of_ble_eq_true rfl⟩ (fun r zw hp => ?_)
      obtain ⟨hw, hF10, rfl⟩ := hp
      have hC := hC.n hF10 (by decide) (by decide)
      have hs := hs.keep (hF10.2 8 (by decide) (by decide)) (hF10.2 9 (by decide) (by decide))
      have hF := hF.tr (wFr.n10 hF10)
      have hX := hC.1
      refine v_iret C hr dX5_values_37 (Nat.le_of_ble_eq_true rfl) (Nat.le_of_ble_eq_true rfl) ?_
      exact ⟨_, rfl, (by first | exact ⟨wFr.rf _, ⟨_, hs⟩, ⟨_, hw⟩, by first | (rw [if_neg c4]; done) | (rw [if_pos c4, if_neg c15]; done)⟩ | exact ⟨hF, ⟨_, hs⟩, ⟨_, hw⟩, by rw [if_pos c4, if_pos c15]; done⟩)⟩
    · have c15 := b01_0 c15
      refine v_bipush (v := (-2)) C dX5_values_18 (by decide) ?_
      refine v_iret C hr dX5_values_20 (Nat.le_of_ble_eq_true rfl) (Nat.le_of_ble_eq_true rfl) ?_
      exact ⟨_, rfl, (by first | exact ⟨wFr.rf _, ⟨_, hs⟩, ⟨_, hw⟩, by first | (rw [if_neg c4]; done) | (rw [if_pos c4, if_neg c15]; done)⟩ | exact ⟨hF, ⟨_, hs⟩, ⟨_, hw⟩, by rw [if_pos c4, if_pos c15]; done⟩)⟩
  · have c4 := b01_0 c4
    refine v_iconst (v := (-1)) C dX5_values_7 (by decide) ?_
    refine v_iret C hr dX5_values_8 (Nat.le_of_ble_eq_true rfl) (Nat.le_of_ble_eq_true rfl) ?_
    exact ⟨_, rfl, (by first | exact ⟨wFr.rf _, ⟨_, hs⟩, ⟨_, hw⟩, by first | (rw [if_neg c4]; done) | (rw [if_pos c4, if_neg c15]; done)⟩ | exact ⟨hF, ⟨_, hs⟩, ⟨_, hw⟩, by rw [if_pos c4, if_pos c15]; done⟩)⟩
set_option maxHeartbeats 4000000 in
set_option maxRecDepth 100000 in
theorem c_X5_unlike (l : Launch) (E : gE) (zw : va_W) {ca : Nat → Nat} {t0 : Int32} {ar : Nat → Nat → Int32} {dr ch : Nat → Int32} {ns np na : Nat} {qe : Nat → Nat} {pl : Nat → Nat → Nat} (hC : CF E ca zw t0 ar dr ch ns np na qe pl) (hb : ns ≤ 120 ∧ np ≤ 2000 ∧ na ≤ 10) {L0 L1 : List Int32} (hs : cS E ca zw 8 L0) (hw : cS E ca zw 10 L1) (mk f t : Int32) : CtI l yX5_unlike wsX5_unlike ({ frames := 5, cells := 0, slots := 0, locals := 111 }) E [.ref (ca 0), .int mk, .int f, .int t] zw (fun r w1 => wFr zw w1 ∧ (∃ L, cS E ca w1 8 L) ∧ (∃ L, cS E ca w1 10 L) ∧ r = if (0 ≤ mk.toInt ∧ mk.toInt ≤ 63) ∧ (0 ≤ t.toInt ∧ t.toInt ≤ t0.toInt ∧ 0 ≤ f.toInt ∧ f.toInt ≤ t.toInt) then nI (LN (insN (inSp (ar 12) f t) (sNm ar) np) (dgs (63 ^^^ mk) 6) (insN (inSp (ar 12) f t) (sNm ar) np).length).length else (-2)) 0 0 := by
  refine Ct.of (cc := cX5_unlike) (nL := 4) (ret := (some .int)) (by decide) rfl (Nat.le_of_ble_eq_true rfl) ?_
  intro p e s m args below meth c C hr hnm
  refine v_eqlv (lv9 := [(0, .ref (ca 0)), (1, .int mk), (2, .int f), (3, .int t)]) rfl ?_
  obtain ⟨hX, h4, h5, h6, h7, hL1, hL2, hL3⟩ := id hC
  obtain ⟨fs1, hq1⟩ := hL1.cell
  obtain ⟨fs2, hq2⟩ := hL2.cell
  obtain ⟨fs3, hq3⟩ := hL3.cell
  refine v_iload_n C dX5_unlike_0 rfl rfl ?_
  refine v_callSi C (c_X5_isSetOfMarks l E zw _ ) (va_cwS 1 C.1.2.2.2.2 gX5_unlike_X5_isSetOfMarks rfl rfl rfl (by decide +kernel) ⟨by decide, by decide⟩) rfl rfl (Nat.le_of_ble_eq_true rfl) dX5_unlike_1 ⟨Nat.le_of_ble_eq_true rfl, Nat.le_of_ble_eq_true rfl⟩ (fun r w1 hp => ?_)
  obtain ⟨rfl, hr9⟩ := hp
  rw [hr9]
  clear hr9
  refine v_if_eq (tgt := 16) C dX5_unlike_4 (by decide) (fun c4 => ?_) (fun c4 => ?_)
  · have c4 := b01_0 c4
    refine v_bipush (v := (-2)) C dX5_unlike_16 (by decide) ?_
    refine v_iret C hr dX5_unlike_18 (Nat.le_of_ble_eq_true rfl) (Nat.le_of_ble_eq_true rfl) ?_
    exact ⟨_, rfl, (by first | exact ⟨wFr.rf _, ⟨_, hs⟩, ⟨_, hw⟩, by first | (rw [if_neg (fun h => c4 h.1)]; done) | (rw [if_neg (fun h => c13 h.2)]; done)⟩ | exact ⟨hF, ⟨_, hs⟩, ⟨_, hw⟩, by rw [if_pos ⟨c4, c13⟩]; done⟩)⟩
  · have c4 := b01_n c4
    refine v_aload_n C dX5_unlike_7 rfl rfl ?_
    refine v_iload_n C dX5_unlike_8 rfl rfl ?_
    refine v_iload_n C dX5_unlike_9 rfl rfl ?_
    refine v_callVi C (c_X5_isSpan l E zw hC hb _ _) (cwV 2 C.1.2.2.2.2 gX5_unlike_X5_isSpan rfl rfl rfl (by decide +kernel) ⟨by decide, by decide⟩) 0 6 hX rfl rfl rfl (Nat.le_of_ble_eq_true rfl) dX5_unlike_10 ⟨Nat.le_of_ble_eq_true rfl, Nat.le_of_ble_eq_true rfl⟩ (fun r w1 hp => ?_)
    obtain ⟨rfl, hr9⟩ := hp
    rw [hr9]
    clear hr9
    refine v_if_ne (tgt := 19) C dX5_unlike_13 (by decide) (fun c13 => ?_) (fun c13 => ?_)
    · have c13 := b01_n c13
      refine v_aload_n C dX5_unlike_19 rfl rfl ?_
      refine v_iload_n C dX5_unlike_20 rfl rfl ?_
      refine v_iload_n C dX5_unlike_21 rfl rfl ?_
      refine v_callVu C (c_X5_gatherSeen l E zw hC hb hs f t) (cwV 2 C.1.2.2.2.2 gX5_unlike_X5_gatherSeen rfl rfl rfl (by decide +kernel) ⟨by decide, by decide⟩) 0 6 hX rfl rfl rfl (Nat.le_of_ble_eq_true rfl) dX5_unlike_22 ⟨Nat.le_of_ble_eq_true rfl, Nat.le_of_ble_eq_true rfl⟩ (fun zw hp => ?_)
      obtain ⟨hs, hF8⟩ := hp
      have hC := hC.n hF8 (by decide) (by decide)
      have hw := hw.keep (hF8.2 10 (by decide) (by decide)) (hF8.2 11 (by decide) (by decide))
      have hF := wFr.n8 hF8
      have hX := hC.1
      have hlS := insN_len (inSp (ar 12) f t) (sNm ar) np
      obtain ⟨fz, g8, g9, hU, hS, hl⟩ := id hs
      refine v_aload_n C dX5_unlike_25 rfl rfl ?_
      refine v_iload_n C dX5_unlike_26 rfl rfl ?_
      refine v_callVi C (c_X5_namesLeftWithout l E zw hC hb hs hw _) (cwV 1 C.1.2.2.2.2 gX5_unlike_X5_namesLeftWithout rfl rfl rfl (by decide +kernel) ⟨by decide, by decide⟩) 0 6 hX rfl rfl rfl (Nat.le_of_ble_eq_true rfl) dX5_unlike_27 ⟨Nat.le_of_ble_eq_true rfl, Nat.le_of_ble_eq_true rfl⟩ (fun r zw hp => ?_)
      obtain ⟨hw, hF10, rfl⟩ := hp
      have hC := hC.n hF10 (by decide) (by decide)
      have hs := hs.keep (hF10.2 8 (by decide) (by decide)) (hF10.2 9 (by decide) (by decide))
      have hF := hF.tr (wFr.n10 hF10)
      have hX := hC.1
      refine v_iret C hr dX5_unlike_30 (Nat.le_of_ble_eq_true rfl) (Nat.le_of_ble_eq_true rfl) ?_
      exact ⟨_, rfl, (by first | exact ⟨wFr.rf _, ⟨_, hs⟩, ⟨_, hw⟩, by first | (rw [if_neg (fun h => c4 h.1)]; done) | (rw [if_neg (fun h => c13 h.2)]; done)⟩ | exact ⟨hF, ⟨_, hs⟩, ⟨_, hw⟩, by rw [if_pos ⟨c4, c13⟩]; done⟩)⟩
    · have c13 := b01_0 c13
      refine v_bipush (v := (-2)) C dX5_unlike_16 (by decide) ?_
      refine v_iret C hr dX5_unlike_18 (Nat.le_of_ble_eq_true rfl) (Nat.le_of_ble_eq_true rfl) ?_
      exact ⟨_, rfl, (by first | exact ⟨wFr.rf _, ⟨_, hs⟩, ⟨_, hw⟩, by first | (rw [if_neg (fun h => c4 h.1)]; done) | (rw [if_neg (fun h => c13 h.2)]; done)⟩ | exact ⟨hF, ⟨_, hs⟩, ⟨_, hw⟩, by rw [if_pos ⟨c4, c13⟩]; done⟩)⟩
theorem inX5_kept_X5 : ∀ x ∈ wsX50, x ∈ wsX5_kept := by decide +kernel
theorem kwX5_kept_16 : Cond.fieldLink RX5 16 "SeriesMarks" "samples" "Ljava/util/ArrayList;" ∈ wsX5_kept := by decide +kernel
theorem kwX5_kept_cl83 : Cond.classLink RX5 83 "SeriesMarks$Sample" ∈ wsX5_kept := by decide +kernel
theorem kwX5_kept_40 : Cond.fieldLink RX5 40 "SeriesMarks" "workNames" "LSeriesMarks$NameSet;" ∈ wsX5_kept := by decide +kernel
theorem kwX5_kept_25 : Cond.fieldLink RX5 25 "SeriesMarks" "shortening" "LSeriesMarks$Shortening;" ∈ wsX5_kept := by decide +kernel
theorem inX5_kept_X2 : ∀ x ∈ wsX20, x ∈ wsX5_kept := by decide +kernel
set_option maxHeartbeats 4000000 in
set_option maxRecDepth 100000 in
theorem lp_X5_kept {p : Program} {l : Launch} {e : Env} {s : State} {m : MethodId} {args : Array Value} {below : List Frame} {meth : Method} {c : Code} {Q : State → Prop} {E : gE} {w0 : va_W} (C : gC p s m args meth c E cX5_kept 5 wsX5_kept yX5_kept.cls) {ca : Nat → Nat} {t0 : Int32} {ar : Nat → Nat → Int32} {dr ch : Nat → Int32} {ns np na : Nat} {qe : Nat → Nat} {pl : Nat → Nat → Nat} (hb : ns ≤ 120 ∧ np ≤ 2000 ∧ na ≤ 10) (hT : ∀ k, k < np → ∃ t, t ≤ 199 ∧ ar 12 k = nI t) {f t : Int32} (hK : ∀ zw : va_W, CF E ca zw t0 ar dr ch ns np na qe pl → nFr 10 w0 zw → cS E ca zw 10 (insN (inSp (ar 12) f t) (fun j => shC dr ch (sNm ar j) (ar 12 j).toNatClampNeg 6) np) → V p l e ({ frames := 4, cells := 0, slots := 0, locals := 87 }) s m args below meth c E 5 zw 0 0 Q 85 [(0, .ref (ca 0)), (1, .int f), (2, .int t), (3, .int (nI np))] []) : ∀ n i : Nat, i + n = np → ∀ zw : va_W, CF E ca zw t0 ar dr ch ns np na qe pl → nFr 10 w0 zw → cS E ca zw 10 (insN (inSp (ar 12) f t) (fun j => shC dr ch (sNm ar j) (ar 12 j).toNatClampNeg 6) i) → V p l e ({ frames := 4, cells := 0, slots := 0, locals := 87 }) s m args below meth c E 5 zw 0 0 Q 21 [(0, .ref (ca 0)), (1, .int f), (2, .int t), (3, .int (nI i))] [] := by
  intro n
  induction n with
  | zero =>
    intro i hi zw hC hF hw
    obtain rfl : i = np := by omega
    obtain ⟨hX, h4, h5, h6, h7, hL1, hL2, hL3⟩ := id hC
    obtain ⟨fs1, hq1⟩ := hL1.cell
    obtain ⟨fs2, hq2⟩ := hL2.cell
    obtain ⟨fs3, hq3⟩ := hL3.cell
    refine v_iload_n C dX5_kept_21 rfl rfl ?_
    refine v_aload_n C dX5_kept_22 rfl rfl ?_
    refine v_get (v := .ref (ca 2)) C inX5_kept_X5 0 hX rfl 2 (by decide) kwX5_kept_16 rfl rfl dX5_kept_23 ?_
    refine v_callVi C (hL2.size l) (cwV 0 C.1.2.2.2.2 gX5_kept_Jx4a65c_size_8abf5 rfl rfl rfl (by decide +kernel) ⟨by decide, by decide⟩) 2 0 hq2 rfl rfl rfl (Nat.le_of_ble_eq_true rfl) dX5_kept_26 ⟨Nat.le_of_ble_eq_true rfl, Nat.le_of_ble_eq_true rfl⟩ (fun r w1 hp => ?_)
    obtain ⟨rfl, rfl⟩ := hp
    refine v_icmp_ge (tgt := 85) C dX5_kept_29 (by decide) (fun c29 => ?_) (fun c29 => absurd (nI_le (Nat.le_refl _) (by omega)) c29)
    exact hK zw hC hF hw
  | succ n ih =>
    intro i hi zw hC hF hw
    obtain ⟨hX, h4, h5, h6, h7, hL1, hL2, hL3⟩ := id hC
    obtain ⟨fs1, hq1⟩ := hL1.cell
    obtain ⟨fs2, hq2⟩ := hL2.cell
    obtain ⟨fs3, hq3⟩ := hL3.cell
    obtain ⟨fw, g10, g11, hUw, hSw, hlw⟩ := id hw
    refine v_iload_n C dX5_kept_21 rfl rfl ?_
    refine v_aload_n C dX5_kept_22 rfl rfl ?_
    refine v_get (v := .ref (ca 2)) C inX5_kept_X5 0 hX rfl 2 (by decide) kwX5_kept_16 rfl rfl dX5_kept_23 ?_
    refine v_callVi C (hL2.size l) (cwV 0 C.1.2.2.2.2 gX5_kept_Jx4a65c_size_8abf5 rfl rfl rfl (by decide +kernel) ⟨by decide, by decide⟩) 2 0 hq2 rfl rfl rfl (Nat.le_of_ble_eq_true rfl) dX5_kept_26 ⟨Nat.le_of_ble_eq_true rfl, Nat.le_of_ble_eq_true rfl⟩ (fun r w1 hp => ?_)
    obtain ⟨rfl, rfl⟩ := hp
    refine v_icmp_ge (tgt := 85) C dX5_kept_29 (by decide) (fun c29 => absurd c29 (nI_ge (by omega) (by omega))) (fun c29 => ?_)
    refine v_aload_n C dX5_kept_32 rfl rfl ?_
    refine v_get (v := .ref (ca 2)) C inX5_kept_X5 0 hX rfl 2 (by decide) kwX5_kept_16 rfl rfl dX5_kept_33 ?_
    refine v_iload_n C dX5_kept_36 rfl rfl ?_
    refine v_callVa C (hL2.get l (j := i) (by omega)) (cwV 1 C.1.2.2.2.2 gX5_kept_Jx4a65c_get_915e3 rfl rfl rfl (by decide +kernel) ⟨by decide, by decide⟩) 2 0 hq2 rfl rfl rfl (Nat.le_of_ble_eq_true rfl) dX5_kept_37 ⟨Nat.le_of_ble_eq_true rfl, Nat.le_of_ble_eq_true rfl⟩ (fun rq w1 hp => ?_)
    obtain ⟨rfl, hob⟩ := hp
    refine v_at (pc9 := 40) rfl ?_
    refine v_cast C kwX5_kept_cl83 (pl 2 i) hob rfl dX5_kept_40 ?_
    refine v_astore C dX5_kept_43 (by decide) rfl ?_
    refine v_aload C dX5_kept_45 rfl ?_
    refine v_iload_n C dX5_kept_47 rfl rfl ?_
    refine v_iload_n C dX5_kept_48 rfl rfl ?_
    refine v_callVi C (c_X2_isWithin l E zw hob f t) (cwV 2 C.1.2.2.2.2 gX5_kept_X2_isWithin rfl rfl rfl (by decide +kernel) ⟨by decide, by decide⟩) (pl 2 i) 3 hob rfl rfl rfl (Nat.le_of_ble_eq_true rfl) dX5_kept_49 ⟨Nat.le_of_ble_eq_true rfl, Nat.le_of_ble_eq_true rfl⟩ (fun r w1 hp => ?_)
    obtain ⟨rfl, hr9⟩ := hp
    rw [hr9]
    clear hr9
    refine v_if_eq (tgt := 79) C dX5_kept_52 (by decide) (fun c52 => ?_) (fun c52 => ?_)
    · have c52 : inSp (ar 12) f t i = false := decide_eq_false (b01_0 c52)
      refine v_pick (lv9 := [(0, .ref (ca 0)), (1, .int f), (2, .int t), (3, .int (nI i))]) ⟨rfl, rfl, rfl, rfl, trivial⟩ ?_
      refine v_iincN C dX5_kept_79 rfl (by decide) rfl ?_
      refine v_goto (tgt := 21) C dX5_kept_82 (by decide) ?_
      first
      | exact ih (i + 1) (by omega) zw hC hF (by rw [insN_f c52]; exact hw)
      | (have e9 := insN_t (h := (fun j => shC dr ch (sNm ar j) (ar 12 j).toNatClampNeg 6)) c52
         have := insN_len (inSp (ar 12) f t) (fun j => shC dr ch (sNm ar j) (ar 12 j).toNatClampNeg 6) (i + 1)
         exact ih (i + 1) (by omega) zw hC hF ⟨f1, by rw [e9]; exact g10, g11, by rw [e9]; exact hUw, insN_sor _ _ _, by omega⟩)
    · have c52 : inSp (ar 12) f t i = true := decide_eq_true (b01_n c52)
      obtain ⟨t9, ht9, e12⟩ := hT i (by omega)
      have e13 : (ar 12 i).toNatClampNeg = t9 := by rw [e12, nI_clamp (by omega)]
      refine v_aload_n C dX5_kept_55 rfl rfl ?_
      refine v_get (v := .ref (ca 10)) C inX5_kept_X5 0 hX rfl 7 (by decide) kwX5_kept_40 rfl rfl dX5_kept_56 ?_
      refine v_aload_n C dX5_kept_59 rfl rfl ?_
      refine v_get (v := .ref (ca 4)) C inX5_kept_X5 0 hX rfl 4 (by decide) kwX5_kept_25 rfl rfl dX5_kept_60 ?_
      refine v_aload C dX5_kept_63 rfl ?_
      refine v_getN C inX5_kept_X2 rfl (pl 2 i) hob rfl 0 (by decide) (by decide +kernel) rfl dX5_kept_65 ?_
      refine v_aload C dX5_kept_68 rfl ?_
      refine v_getN C inX5_kept_X2 rfl (pl 2 i) hob rfl 1 (by decide) (by decide +kernel) rfl dX5_kept_70 ?_
      refine v_tov e12 ?_
      refine v_callVi C (c_X4_shorten l E zw h4 h5 h6 _ ht9) (cwV 2 C.1.2.2.2.2 gX5_kept_X4_shorten rfl rfl rfl (by decide +kernel) ⟨by decide, by decide⟩) 4 5 h4 rfl rfl rfl (Nat.le_of_ble_eq_true rfl) dX5_kept_73 ⟨Nat.le_of_ble_eq_true rfl, Nat.le_of_ble_eq_true rfl⟩ (fun r w1 hp => ?_)
      obtain ⟨rfl, hr9⟩ := hp
      have hr9 : r = (fun j => shC dr ch (sNm ar j) (ar 12 j).toNatClampNeg 6) i := by rw [hr9]; show _ = shC dr ch (sNm ar i) (ar 12 i).toNatClampNeg 6; rw [e13]; rfl
      rw [hr9]
      clear hr9
      refine v_at (pc9 := 76) rfl ?_
      refine v_callVu C (c_X1_put l E zw g10 g11 hSw hUw (by have := insN_len (inSp (ar 12) f t) (fun j => shC dr ch (sNm ar j) (ar 12 j).toNatClampNeg 6) i; omega) (by decide) ((fun j => shC dr ch (sNm ar j) (ar 12 j).toNatClampNeg 6) i)) (cwV 1 C.1.2.2.2.2 gX5_kept_X1_put rfl rfl rfl (by decide +kernel) ⟨by decide, by decide⟩) 10 2 g10 rfl rfl rfl (Nat.le_of_ble_eq_true rfl) dX5_kept_76 ⟨Nat.le_of_ble_eq_true rfl, Nat.le_of_ble_eq_true rfl⟩ (fun zw hp => ?_)
      obtain ⟨f1, g10, g11, hUw, z1, z2⟩ := hp
      have hF1 : nFr 10 _ zw := ⟨z1, z2⟩
      have hC := hC.n hF1 (by decide) (by decide)
      have hF := hF.tr hF1
      refine v_pick (lv9 := [(0, .ref (ca 0)), (1, .int f), (2, .int t), (3, .int (nI i))]) ⟨rfl, rfl, rfl, rfl, trivial⟩ ?_
      refine v_iincN C dX5_kept_79 rfl (by decide) rfl ?_
      refine v_goto (tgt := 21) C dX5_kept_82 (by decide) ?_
      first
      | exact ih (i + 1) (by omega) zw hC hF (by rw [insN_f c52]; exact hw)
      | (have e9 := insN_t (h := (fun j => shC dr ch (sNm ar j) (ar 12 j).toNatClampNeg 6)) c52
         have := insN_len (inSp (ar 12) f t) (fun j => shC dr ch (sNm ar j) (ar 12 j).toNatClampNeg 6) (i + 1)
         exact ih (i + 1) (by omega) zw hC hF ⟨f1, by rw [e9]; exact g10, g11, by rw [e9]; exact hUw, insN_sor _ _ _, by omega⟩)
theorem inX5_kept_X1 : ∀ x ∈ wsX10, x ∈ wsX5_kept := by decide +kernel
set_option maxHeartbeats 4000000 in
set_option maxRecDepth 100000 in
theorem c_X5_kept (l : Launch) (E : gE) (zw : va_W) {ca : Nat → Nat} {t0 : Int32} {ar : Nat → Nat → Int32} {dr ch : Nat → Int32} {ns np na : Nat} {qe : Nat → Nat} {pl : Nat → Nat → Nat} (hC : CF E ca zw t0 ar dr ch ns np na qe pl) (hb : ns ≤ 120 ∧ np ≤ 2000 ∧ na ≤ 10) {L0 L1 : List Int32} (hs : cS E ca zw 8 L0) (hw : cS E ca zw 10 L1) (hT : ∀ k, k < np → ∃ t, t ≤ 199 ∧ ar 12 k = nI t) (f t : Int32) : CtI l yX5_kept wsX5_kept ({ frames := 4, cells := 0, slots := 0, locals := 87 }) E [.ref (ca 0), .int f, .int t] zw (fun r w1 => wFr zw w1 ∧ (∃ L, cS E ca w1 8 L) ∧ (∃ L, cS E ca w1 10 L) ∧ r = if 0 ≤ t.toInt ∧ t.toInt ≤ t0.toInt ∧ 0 ≤ f.toInt ∧ f.toInt ≤ t.toInt then nI (insN (inSp (ar 12) f t) (fun j => shC dr ch (sNm ar j) (ar 12 j).toNatClampNeg 6) np).length else (-2)) 0 0 := by
  refine Ct.of (cc := cX5_kept) (nL := 5) (ret := (some .int)) (by decide) rfl (Nat.le_of_ble_eq_true rfl) ?_
  intro p e s m args below meth c C hr hnm
  refine v_eqlv (lv9 := [(0, .ref (ca 0)), (1, .int f), (2, .int t)]) rfl ?_
  obtain ⟨hX, h4, h5, h6, h7, hL1, hL2, hL3⟩ := id hC
  obtain ⟨fs1, hq1⟩ := hL1.cell
  obtain ⟨fs2, hq2⟩ := hL2.cell
  obtain ⟨fs3, hq3⟩ := hL3.cell
  have hs0 := hs
  obtain ⟨fw, g10, g11, hUw, hSw, hlw⟩ := id hw
  refine v_aload_n C dX5_kept_0 rfl rfl ?_
  refine v_iload_n C dX5_kept_1 rfl rfl ?_
  refine v_iload_n C dX5_kept_2 rfl rfl ?_
  refine v_callVi C (c_X5_isSpan l E zw hC hb _ _) (cwV 2 C.1.2.2.2.2 gX5_kept_X5_isSpan rfl rfl rfl (by decide +kernel) ⟨by decide, by decide⟩) 0 6 hX rfl rfl rfl (Nat.le_of_ble_eq_true rfl) dX5_kept_3 ⟨Nat.le_of_ble_eq_true rfl, Nat.le_of_ble_eq_true rfl⟩ (fun r w1 hp => ?_)
  obtain ⟨rfl, hr9⟩ := hp
  rw [hr9]
  clear hr9
  refine v_if_ne (tgt := 12) C dX5_kept_6 (by decide) (fun c6 => ?_) (fun c6 => ?_)
  · have c6 := b01_n c6
    refine v_aload_n C dX5_kept_12 rfl rfl ?_
    refine v_get (v := .ref (ca 10)) C inX5_kept_X5 0 hX rfl 7 (by decide) kwX5_kept_40 rfl rfl dX5_kept_13 ?_
    refine v_callVu C (c_X1_makeEmpty l E zw g10) (cwV 0 C.1.2.2.2.2 gX5_kept_X1_makeEmpty rfl rfl rfl (by decide +kernel) ⟨by decide, by decide⟩) 10 2 g10 rfl rfl rfl (Nat.le_of_ble_eq_true rfl) dX5_kept_16 ⟨Nat.le_of_ble_eq_true rfl, Nat.le_of_ble_eq_true rfl⟩ (fun zw hp => ?_)
    obtain ⟨g10, hO⟩ := hp
    have hF := nFr.of hO
    have hC := hC.n hF (by decide) (by decide)
    have hs := hs.keep (hO.2 8 (by decide)) (hO.2 9 (by decide))
    have hw : cS E ca zw 10 [] := ⟨fw, g10, (hO.2 11 (by decide)).trans g11, UL.nil _, List.Pairwise.nil, Nat.zero_le _⟩
    have hF0 := hF
    refine v_iconst (v := 0) C dX5_kept_19 (by decide) ?_
    refine v_tov nI_0.symm ?_
    refine v_istore_n C dX5_kept_20 rfl (by decide) rfl ?_
    refine lp_X5_kept C hb hT ?_ np 0 (Nat.zero_add _) zw hC hF hw
    intro zw hC hF hw
    have hX := hC.1
    obtain ⟨fw, g10, g11, hUw, hSw, hlw⟩ := id hw
    refine v_aload_n C dX5_kept_85 rfl rfl ?_
    refine v_get (v := .ref (ca 10)) C inX5_kept_X5 0 hX rfl 7 (by decide) kwX5_kept_40 rfl rfl dX5_kept_86 ?_
    refine v_getN C inX5_kept_X1 rfl 10 g10 rfl 1 (by decide) (by decide +kernel) rfl dX5_kept_89 ?_
    refine v_iret C hr dX5_kept_92 (Nat.le_of_ble_eq_true rfl) (Nat.le_of_ble_eq_true rfl) ?_
    exact ⟨_, rfl, (by first | exact ⟨wFr.rf _, ⟨_, hs⟩, ⟨_, hw⟩, by rw [if_neg c6]; done⟩ | exact ⟨wFr.n10 hF, ⟨_, hs0.keep (hF.2 8 (by decide) (by decide)) (hF.2 9 (by decide) (by decide))⟩, ⟨_, hw⟩, by rw [if_pos c6]; done⟩)⟩
  · have c6 := b01_0 c6
    refine v_bipush (v := (-2)) C dX5_kept_9 (by decide) ?_
    refine v_iret C hr dX5_kept_11 (Nat.le_of_ble_eq_true rfl) (Nat.le_of_ble_eq_true rfl) ?_
    exact ⟨_, rfl, (by first | exact ⟨wFr.rf _, ⟨_, hs⟩, ⟨_, hw⟩, by rw [if_neg c6]; done⟩ | exact ⟨wFr.n10 hF, ⟨_, hs0.keep (hF.2 8 (by decide) (by decide)) (hF.2 9 (by decide) (by decide))⟩, ⟨_, hw⟩, by rw [if_pos c6]; done⟩)⟩
theorem inX5_dropped_X5 : ∀ x ∈ wsX50, x ∈ wsX5_dropped := by decide +kernel
theorem kwX5_dropped_25 : Cond.fieldLink RX5 25 "SeriesMarks" "shortening" "LSeriesMarks$Shortening;" ∈ wsX5_dropped := by decide +kernel
set_option maxHeartbeats 4000000 in
set_option maxRecDepth 100000 in
theorem c_X5_dropped (l : Launch) (E : gE) (zw : va_W) {ca : Nat → Nat} {t0 : Int32} {ar : Nat → Nat → Int32} {dr ch : Nat → Int32} {ns np na : Nat} {qe : Nat → Nat} {pl : Nat → Nat → Nat} (hC : CF E ca zw t0 ar dr ch ns np na qe pl) (hb : ns ≤ 120 ∧ np ≤ 2000 ∧ na ≤ 10) {tk : Nat} (htk : t0 = nI tk) (htk9 : tk ≤ 199) (mk t : Int32) : CtI l yX5_dropped wsX5_dropped ({ frames := 2, cells := 0, slots := 0, locals := 43 }) E [.ref (ca 0), .int mk, .int t] zw (fun r w1 => zw = w1 ∧ r = if 0 ≤ mk.toInt ∧ mk.toInt ≤ 5 then (if 0 ≤ t.toInt ∧ t.toInt ≤ t0.toInt then b01 ((dr t.toNatClampNeg >>> (mk &&& 31)) &&& 1 = 1) else (-2)) else (-1)) 0 0 := by
  refine Ct.of (cc := cX5_dropped) (nL := 3) (ret := (some .int)) (by decide) rfl (Nat.le_of_ble_eq_true rfl) ?_
  intro p e s m args below meth c C hr hnm
  refine v_eqlv (lv9 := [(0, .ref (ca 0)), (1, .int mk), (2, .int t)]) rfl ?_
  obtain ⟨hX, h4, h5, h6, h7, hL1, hL2, hL3⟩ := id hC
  obtain ⟨fs1, hq1⟩ := hL1.cell
  obtain ⟨fs2, hq2⟩ := hL2.cell
  obtain ⟨fs3, hq3⟩ := hL3.cell
  have hti : t0.toInt = tk := by rw [htk, nI_toInt (by omega)]
  refine v_iload_n C dX5_dropped_0 rfl rfl ?_
  refine v_callSi C (c_X5_isMark l E zw _ ) (va_cwS 1 C.1.2.2.2.2 gX5_dropped_X5_isMark rfl rfl rfl (by decide +kernel) ⟨by decide, by decide⟩) rfl rfl (Nat.le_of_ble_eq_true rfl) dX5_dropped_1 ⟨Nat.le_of_ble_eq_true rfl, Nat.le_of_ble_eq_true rfl⟩ (fun r w1 hp => ?_)
  obtain ⟨rfl, hr9⟩ := hp
  rw [hr9]
  clear hr9
  refine v_if_ne (tgt := 9) C dX5_dropped_4 (by decide) (fun c4 => ?_) (fun c4 => ?_)
  · have c4 := b01_n c4
    obtain ⟨mm, hmm, rfl⟩ := nI_ex2 (n := 5) c4.1 c4.2
    have em := nI_clamp (n := mm) (by omega)
    refine v_aload_n C dX5_dropped_9 rfl rfl ?_
    refine v_iload_n C dX5_dropped_10 rfl rfl ?_
    refine v_callVi C (c_X5_isPastTick l E zw hC hb _) (cwV 1 C.1.2.2.2.2 gX5_dropped_X5_isPastTick rfl rfl rfl (by decide +kernel) ⟨by decide, by decide⟩) 0 6 hX rfl rfl rfl (Nat.le_of_ble_eq_true rfl) dX5_dropped_11 ⟨Nat.le_of_ble_eq_true rfl, Nat.le_of_ble_eq_true rfl⟩ (fun r w1 hp => ?_)
    obtain ⟨rfl, hr9⟩ := hp
    rw [hr9]
    clear hr9
    refine v_if_ne (tgt := 20) C dX5_dropped_14 (by decide) (fun c14 => ?_) (fun c14 => ?_)
    · have c14 := b01_n c14
      obtain ⟨tt, htt, rfl⟩ := nI_ex2 (n := 199) c14.1 (by omega)
      have et := nI_clamp (n := tt) (by omega)
      refine v_aload_n C dX5_dropped_20 rfl rfl ?_
      refine v_get (v := .ref (ca 4)) C inX5_dropped_X5 0 hX rfl 4 (by decide) kwX5_dropped_25 rfl rfl dX5_dropped_21 ?_
      refine v_iload_n C dX5_dropped_24 rfl rfl ?_
      refine v_iload_n C dX5_dropped_25 rfl rfl ?_
      refine v_callVi C (c_X4_isDropped l E zw h4 h5 h6 _ htt) (cwV 2 C.1.2.2.2.2 gX5_dropped_X4_isDropped rfl rfl rfl (by decide +kernel) ⟨by decide, by decide⟩) 4 5 h4 rfl rfl rfl (Nat.le_of_ble_eq_true rfl) dX5_dropped_26 ⟨Nat.le_of_ble_eq_true rfl, Nat.le_of_ble_eq_true rfl⟩ (fun r w1 hp => ?_)
      obtain ⟨rfl, hr9⟩ := hp
      rw [hr9]
      clear hr9
      refine v_callSi C (c_X5_asNumber l E zw _ (b01_or _)) (va_cwS 1 C.1.2.2.2.2 gX5_dropped_X5_asNumber rfl rfl rfl (by decide +kernel) ⟨by decide, by decide⟩) rfl rfl (Nat.le_of_ble_eq_true rfl) dX5_dropped_29 ⟨Nat.le_of_ble_eq_true rfl, Nat.le_of_ble_eq_true rfl⟩ (fun r w1 hp => ?_)
      obtain ⟨rfl, hr9⟩ := hp
      rw [hr9]
      clear hr9
      refine v_iret C hr dX5_dropped_32 (Nat.le_of_ble_eq_true rfl) (Nat.le_of_ble_eq_true rfl) ?_
      exact ⟨_, rfl, ⟨rfl, by first | (rw [if_neg c4]; done) | (rw [if_pos c4, if_neg c14]; done) | (rw [if_pos c4, if_pos c14, et]; done)⟩⟩
    · have c14 := b01_0 c14
      refine v_bipush (v := (-2)) C dX5_dropped_17 (by decide) ?_
      refine v_iret C hr dX5_dropped_19 (Nat.le_of_ble_eq_true rfl) (Nat.le_of_ble_eq_true rfl) ?_
      exact ⟨_, rfl, ⟨rfl, by first | (rw [if_neg c4]; done) | (rw [if_pos c4, if_neg c14]; done) | (rw [if_pos c4, if_pos c14, et]; done)⟩⟩
  · have c4 := b01_0 c4
    refine v_iconst (v := (-1)) C dX5_dropped_7 (by decide) ?_
    refine v_iret C hr dX5_dropped_8 (Nat.le_of_ble_eq_true rfl) (Nat.le_of_ble_eq_true rfl) ?_
    exact ⟨_, rfl, ⟨rfl, by first | (rw [if_neg c4]; done) | (rw [if_pos c4, if_neg c14]; done) | (rw [if_pos c4, if_pos c14, et]; done)⟩⟩
theorem inX5_chief_X5 : ∀ x ∈ wsX50, x ∈ wsX5_chief := by decide +kernel
theorem kwX5_chief_25 : Cond.fieldLink RX5 25 "SeriesMarks" "shortening" "LSeriesMarks$Shortening;" ∈ wsX5_chief := by decide +kernel
set_option maxHeartbeats 4000000 in
set_option maxRecDepth 100000 in
theorem c_X5_chief (l : Launch) (E : gE) (zw : va_W) {ca : Nat → Nat} {t0 : Int32} {ar : Nat → Nat → Int32} {dr ch : Nat → Int32} {ns np na : Nat} {qe : Nat → Nat} {pl : Nat → Nat → Nat} (hC : CF E ca zw t0 ar dr ch ns np na qe pl) (hb : ns ≤ 120 ∧ np ≤ 2000 ∧ na ≤ 10) {tk : Nat} (htk : t0 = nI tk) (htk9 : tk ≤ 199) (mk v t : Int32) : CtI l yX5_chief wsX5_chief ({ frames := 2, cells := 0, slots := 0, locals := 44 }) E [.ref (ca 0), .int mk, .int v, .int t] zw (fun r w1 => zw = w1 ∧ r = if (0 ≤ mk.toInt ∧ mk.toInt ≤ 5) ∧ 0 ≤ v.toInt ∧ v.toInt ≤ 7 then (if 0 ≤ t.toInt ∧ t.toInt ≤ t0.toInt then dgt (ch (6 * t.toNatClampNeg + mk.toNatClampNeg)) v else (-2)) else (-1)) 0 0 := by
  refine Ct.of (cc := cX5_chief) (nL := 4) (ret := (some .int)) (by decide) rfl (Nat.le_of_ble_eq_true rfl) ?_
  intro p e s m args below meth c C hr hnm
  refine v_eqlv (lv9 := [(0, .ref (ca 0)), (1, .int mk), (2, .int v), (3, .int t)]) rfl ?_
  obtain ⟨hX, h4, h5, h6, h7, hL1, hL2, hL3⟩ := id hC
  obtain ⟨fs1, hq1⟩ := hL1.cell
  obtain ⟨fs2, hq2⟩ := hL2.cell
  obtain ⟨fs3, hq3⟩ := hL3.cell
  have hti : t0.toInt = tk := by rw [htk, nI_toInt (by omega)]
  refine v_iload_n C dX5_chief_0 rfl rfl ?_
  refine v_callSi C (c_X5_isMark l E zw _ ) (va_cwS 1 C.1.2.2.2.2 gX5_chief_X5_isMark rfl rfl rfl (by decide +kernel) ⟨by decide, by decide⟩) rfl rfl (Nat.le_of_ble_eq_true rfl) dX5_chief_1 ⟨Nat.le_of_ble_eq_true rfl, Nat.le_of_ble_eq_true rfl⟩ (fun r w1 hp => ?_)
  obtain ⟨rfl, hr9⟩ := hp
  rw [hr9]
  clear hr9
  refine v_if_eq (tgt := 14) C dX5_chief_4 (by decide) (fun c4 => ?_) (fun c4 => ?_)
  · have c4 := b01_0 c4
    refine v_iconst (v := (-1)) C dX5_chief_14 (by decide) ?_
    refine v_iret C hr dX5_chief_15 (Nat.le_of_ble_eq_true rfl) (Nat.le_of_ble_eq_true rfl) ?_
    exact ⟨_, rfl, ⟨rfl, by first | (rw [if_neg (fun h => c4 h.1)]; done) | (rw [if_neg (fun h => c11 h.2)]; done) | (rw [if_pos ⟨c4, c11⟩, if_neg c21]; done) | (rw [if_pos ⟨c4, c11⟩, if_pos c21, et, em]; done)⟩⟩
  · have c4 := b01_n c4
    obtain ⟨mm, hmm, rfl⟩ := nI_ex2 (n := 5) c4.1 c4.2
    have em := nI_clamp (n := mm) (by omega)
    refine v_iload_n C dX5_chief_7 rfl rfl ?_
    refine v_callSi C (c_X5_isValue l E zw _ ) (va_cwS 1 C.1.2.2.2.2 gX5_chief_X5_isValue rfl rfl rfl (by decide +kernel) ⟨by decide, by decide⟩) rfl rfl (Nat.le_of_ble_eq_true rfl) dX5_chief_8 ⟨Nat.le_of_ble_eq_true rfl, Nat.le_of_ble_eq_true rfl⟩ (fun r w1 hp => ?_)
    obtain ⟨rfl, hr9⟩ := hp
    rw [hr9]
    clear hr9
    refine v_if_ne (tgt := 16) C dX5_chief_11 (by decide) (fun c11 => ?_) (fun c11 => ?_)
    · have c11 := b01_n c11
      refine v_aload_n C dX5_chief_16 rfl rfl ?_
      refine v_iload_n C dX5_chief_17 rfl rfl ?_
      refine v_callVi C (c_X5_isPastTick l E zw hC hb _) (cwV 1 C.1.2.2.2.2 gX5_chief_X5_isPastTick rfl rfl rfl (by decide +kernel) ⟨by decide, by decide⟩) 0 6 hX rfl rfl rfl (Nat.le_of_ble_eq_true rfl) dX5_chief_18 ⟨Nat.le_of_ble_eq_true rfl, Nat.le_of_ble_eq_true rfl⟩ (fun r w1 hp => ?_)
      obtain ⟨rfl, hr9⟩ := hp
      rw [hr9]
      clear hr9
      refine v_if_ne (tgt := 27) C dX5_chief_21 (by decide) (fun c21 => ?_) (fun c21 => ?_)
      · have c21 := b01_n c21
        obtain ⟨tt, htt, rfl⟩ := nI_ex2 (n := 199) c21.1 (by omega)
        have et := nI_clamp (n := tt) (by omega)
        refine v_aload_n C dX5_chief_27 rfl rfl ?_
        refine v_get (v := .ref (ca 4)) C inX5_chief_X5 0 hX rfl 4 (by decide) kwX5_chief_25 rfl rfl dX5_chief_28 ?_
        refine v_iload_n C dX5_chief_31 rfl rfl ?_
        refine v_iload_n C dX5_chief_32 rfl rfl ?_
        refine v_iload_n C dX5_chief_33 rfl rfl ?_
        refine v_callVi C (c_X4_chiefOf l E zw h4 h5 h6 (mm := mm) (by omega) _ htt) (cwV 3 C.1.2.2.2.2 gX5_chief_X4_chiefOf rfl rfl rfl (by decide +kernel) ⟨by decide, by decide⟩) 4 5 h4 rfl rfl rfl (Nat.le_of_ble_eq_true rfl) dX5_chief_34 ⟨Nat.le_of_ble_eq_true rfl, Nat.le_of_ble_eq_true rfl⟩ (fun r w1 hp => ?_)
        obtain ⟨rfl, hr9⟩ := hp
        rw [hr9]
        clear hr9
        refine v_iret C hr dX5_chief_37 (Nat.le_of_ble_eq_true rfl) (Nat.le_of_ble_eq_true rfl) ?_
        exact ⟨_, rfl, ⟨rfl, by first | (rw [if_neg (fun h => c4 h.1)]; done) | (rw [if_neg (fun h => c11 h.2)]; done) | (rw [if_pos ⟨c4, c11⟩, if_neg c21]; done) | (rw [if_pos ⟨c4, c11⟩, if_pos c21, et, em]; done)⟩⟩
      · have c21 := b01_0 c21
        refine v_bipush (v := (-2)) C dX5_chief_24 (by decide) ?_
        refine v_iret C hr dX5_chief_26 (Nat.le_of_ble_eq_true rfl) (Nat.le_of_ble_eq_true rfl) ?_
        exact ⟨_, rfl, ⟨rfl, by first | (rw [if_neg (fun h => c4 h.1)]; done) | (rw [if_neg (fun h => c11 h.2)]; done) | (rw [if_pos ⟨c4, c11⟩, if_neg c21]; done) | (rw [if_pos ⟨c4, c11⟩, if_pos c21, et, em]; done)⟩⟩
    · have c11 := b01_0 c11
      refine v_iconst (v := (-1)) C dX5_chief_14 (by decide) ?_
      refine v_iret C hr dX5_chief_15 (Nat.le_of_ble_eq_true rfl) (Nat.le_of_ble_eq_true rfl) ?_
      exact ⟨_, rfl, ⟨rfl, by first | (rw [if_neg (fun h => c4 h.1)]; done) | (rw [if_neg (fun h => c11 h.2)]; done) | (rw [if_pos ⟨c4, c11⟩, if_neg c21]; done) | (rw [if_pos ⟨c4, c11⟩, if_pos c21, et, em]; done)⟩⟩
theorem inX5_shortAt_X5 : ∀ x ∈ wsX50, x ∈ wsX5_shortAt := by decide +kernel
theorem kwX5_shortAt_25 : Cond.fieldLink RX5 25 "SeriesMarks" "shortening" "LSeriesMarks$Shortening;" ∈ wsX5_shortAt := by decide +kernel
set_option maxHeartbeats 4000000 in
set_option maxRecDepth 100000 in
theorem c_X5_shortAt (l : Launch) (E : gE) (zw : va_W) {ca : Nat → Nat} {t0 : Int32} {ar : Nat → Nat → Int32} {dr ch : Nat → Int32} {ns np na : Nat} {qe : Nat → Nat} {pl : Nat → Nat → Nat} (hC : CF E ca zw t0 ar dr ch ns np na qe pl) (hb : ns ≤ 120 ∧ np ≤ 2000 ∧ na ≤ 10) {tk : Nat} (htk : t0 = nI tk) (htk9 : tk ≤ 199) (x t : Int32) : CtI l yX5_shortAt wsX5_shortAt ({ frames := 3, cells := 0, slots := 0, locals := 68 }) E [.ref (ca 0), .int x, .int t] zw (fun r w1 => zw = w1 ∧ r = if (0 ≤ x.toInt ∧ x.toInt ≤ 262143) ∧ 0 ≤ t.toInt ∧ t.toInt ≤ t0.toInt then shC dr ch x t.toNatClampNeg 6 else (-2)) 0 0 := by
  refine Ct.of (cc := cX5_shortAt) (nL := 3) (ret := (some .int)) (by decide) rfl (Nat.le_of_ble_eq_true rfl) ?_
  intro p e s m args below meth c C hr hnm
  refine v_eqlv (lv9 := [(0, .ref (ca 0)), (1, .int x), (2, .int t)]) rfl ?_
  obtain ⟨hX, h4, h5, h6, h7, hL1, hL2, hL3⟩ := id hC
  obtain ⟨fs1, hq1⟩ := hL1.cell
  obtain ⟨fs2, hq2⟩ := hL2.cell
  obtain ⟨fs3, hq3⟩ := hL3.cell
  have hti : t0.toInt = tk := by rw [htk, nI_toInt (by omega)]
  refine v_iload_n C dX5_shortAt_0 rfl rfl ?_
  refine v_callSi C (c_X5_isName l E zw _ ) (va_cwS 1 C.1.2.2.2.2 gX5_shortAt_X5_isName rfl rfl rfl (by decide +kernel) ⟨by decide, by decide⟩) rfl rfl (Nat.le_of_ble_eq_true rfl) dX5_shortAt_1 ⟨Nat.le_of_ble_eq_true rfl, Nat.le_of_ble_eq_true rfl⟩ (fun r w1 hp => ?_)
  obtain ⟨rfl, hr9⟩ := hp
  rw [hr9]
  clear hr9
  refine v_if_eq (tgt := 15) C dX5_shortAt_4 (by decide) (fun c4 => ?_) (fun c4 => ?_)
  · have c4 := b01_0 c4
    refine v_bipush (v := (-2)) C dX5_shortAt_15 (by decide) ?_
    refine v_iret C hr dX5_shortAt_17 (Nat.le_of_ble_eq_true rfl) (Nat.le_of_ble_eq_true rfl) ?_
    exact ⟨_, rfl, ⟨rfl, by first | (rw [if_neg (fun h => c4 h.1)]; done) | (rw [if_neg (fun h => c12 h.2)]; done) | (rw [if_pos ⟨c4, c12⟩, et]; done)⟩⟩
  · have c4 := b01_n c4
    refine v_aload_n C dX5_shortAt_7 rfl rfl ?_
    refine v_iload_n C dX5_shortAt_8 rfl rfl ?_
    refine v_callVi C (c_X5_isPastTick l E zw hC hb _) (cwV 1 C.1.2.2.2.2 gX5_shortAt_X5_isPastTick rfl rfl rfl (by decide +kernel) ⟨by decide, by decide⟩) 0 6 hX rfl rfl rfl (Nat.le_of_ble_eq_true rfl) dX5_shortAt_9 ⟨Nat.le_of_ble_eq_true rfl, Nat.le_of_ble_eq_true rfl⟩ (fun r w1 hp => ?_)
    obtain ⟨rfl, hr9⟩ := hp
    rw [hr9]
    clear hr9
    refine v_if_ne (tgt := 18) C dX5_shortAt_12 (by decide) (fun c12 => ?_) (fun c12 => ?_)
    · have c12 := b01_n c12
      obtain ⟨tt, htt, rfl⟩ := nI_ex2 (n := 199) c12.1 (by omega)
      have et := nI_clamp (n := tt) (by omega)
      refine v_aload_n C dX5_shortAt_18 rfl rfl ?_
      refine v_get (v := .ref (ca 4)) C inX5_shortAt_X5 0 hX rfl 4 (by decide) kwX5_shortAt_25 rfl rfl dX5_shortAt_19 ?_
      refine v_iload_n C dX5_shortAt_22 rfl rfl ?_
      refine v_iload_n C dX5_shortAt_23 rfl rfl ?_
      refine v_callVi C (c_X4_shorten l E zw h4 h5 h6 _ htt) (cwV 2 C.1.2.2.2.2 gX5_shortAt_X4_shorten rfl rfl rfl (by decide +kernel) ⟨by decide, by decide⟩) 4 5 h4 rfl rfl rfl (Nat.le_of_ble_eq_true rfl) dX5_shortAt_24 ⟨Nat.le_of_ble_eq_true rfl, Nat.le_of_ble_eq_true rfl⟩ (fun r w1 hp => ?_)
      obtain ⟨rfl, hr9⟩ := hp
      rw [hr9]
      clear hr9
      refine v_iret C hr dX5_shortAt_27 (Nat.le_of_ble_eq_true rfl) (Nat.le_of_ble_eq_true rfl) ?_
      exact ⟨_, rfl, ⟨rfl, by first | (rw [if_neg (fun h => c4 h.1)]; done) | (rw [if_neg (fun h => c12 h.2)]; done) | (rw [if_pos ⟨c4, c12⟩, et]; done)⟩⟩
    · have c12 := b01_0 c12
      refine v_bipush (v := (-2)) C dX5_shortAt_15 (by decide) ?_
      refine v_iret C hr dX5_shortAt_17 (Nat.le_of_ble_eq_true rfl) (Nat.le_of_ble_eq_true rfl) ?_
      exact ⟨_, rfl, ⟨rfl, by first | (rw [if_neg (fun h => c4 h.1)]; done) | (rw [if_neg (fun h => c12 h.2)]; done) | (rw [if_pos ⟨c4, c12⟩, et]; done)⟩⟩
set_option maxHeartbeats 4000000 in
set_option maxRecDepth 100000 in
theorem c_X5_loss (l : Launch) (E : gE) (zw : va_W) {ca : Nat → Nat} {t0 : Int32} {ar : Nat → Nat → Int32} {dr ch : Nat → Int32} {ns np na : Nat} {qe : Nat → Nat} {pl : Nat → Nat → Nat} (hC : CF E ca zw t0 ar dr ch ns np na qe pl) (hb : ns ≤ 120 ∧ np ≤ 2000 ∧ na ≤ 10) (mk : Int32) : CtI l yX5_loss wsX5_loss ({ frames := 4, cells := 0, slots := 0, locals := 88 }) E [.ref (ca 0), .int mk] zw (fun r w1 => zw = w1 ∧ r = if 0 ≤ mk.toInt ∧ mk.toInt ≤ 63 then (lsB (lsA (ar 22) mk 6) (ar 18) (ar 21) mk na) else (-2)) 0 0 := by
  refine Ct.of (cc := cX5_loss) (nL := 2) (ret := (some .int)) (by decide) rfl (Nat.le_of_ble_eq_true rfl) ?_
  intro p e s m args below meth c C hr hnm
  refine v_eqlv (lv9 := [(0, .ref (ca 0)), (1, .int mk)]) rfl ?_
  obtain ⟨hX, h4, h5, h6, h7, hL1, hL2, hL3⟩ := id hC
  obtain ⟨fs1, hq1⟩ := hL1.cell
  obtain ⟨fs2, hq2⟩ := hL2.cell
  obtain ⟨fs3, hq3⟩ := hL3.cell
  refine v_iload_n C dX5_loss_0 rfl rfl ?_
  refine v_callSi C (c_X5_isSetOfMarks l E zw _ ) (va_cwS 1 C.1.2.2.2.2 gX5_loss_X5_isSetOfMarks rfl rfl rfl (by decide +kernel) ⟨by decide, by decide⟩) rfl rfl (Nat.le_of_ble_eq_true rfl) dX5_loss_1 ⟨Nat.le_of_ble_eq_true rfl, Nat.le_of_ble_eq_true rfl⟩ (fun r w1 hp => ?_)
  obtain ⟨rfl, hr9⟩ := hp
  rw [hr9]
  clear hr9
  refine v_if_ne (tgt := 10) C dX5_loss_4 (by decide) (fun c4 => ?_) (fun c4 => ?_)
  · have c4 := b01_n c4
    refine v_aload_n C dX5_loss_10 rfl rfl ?_
    refine v_iload_n C dX5_loss_11 rfl rfl ?_
    refine v_callVi C (c_X5_lossOf l E zw hC hb _) (cwV 1 C.1.2.2.2.2 gX5_loss_X5_lossOf rfl rfl rfl (by decide +kernel) ⟨by decide, by decide⟩) 0 6 hX rfl rfl rfl (Nat.le_of_ble_eq_true rfl) dX5_loss_12 ⟨Nat.le_of_ble_eq_true rfl, Nat.le_of_ble_eq_true rfl⟩ (fun r w1 hp => ?_)
    obtain ⟨rfl, hr9⟩ := hp
    rw [hr9]
    clear hr9
    refine v_iret C hr dX5_loss_15 (Nat.le_of_ble_eq_true rfl) (Nat.le_of_ble_eq_true rfl) ?_
    exact ⟨_, rfl, ⟨rfl, by first | exact (if_pos c4).symm | exact (if_neg c4).symm⟩⟩
  · have c4 := b01_0 c4
    refine v_bipush (v := (-2)) C dX5_loss_7 (by decide) ?_
    refine v_iret C hr dX5_loss_9 (Nat.le_of_ble_eq_true rfl) (Nat.le_of_ble_eq_true rfl) ?_
    exact ⟨_, rfl, ⟨rfl, by first | exact (if_pos c4).symm | exact (if_neg c4).symm⟩⟩
