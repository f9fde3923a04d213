/-- the rows of names and the reference's cells are as they were -/
def gFr (zw w1 : va_W) : Prop := zw.length ≤ w1.length ∧ ∀ k, 8 ≤ k → k < 31 → w1[k]? = zw[k]?
theorem gFr.rf (zw : va_W) : gFr zw zw := ⟨Nat.le_refl _, fun _ _ _ => rfl⟩
theorem gFr.tr {zw w1 w2 : va_W} (h : gFr zw w1) (h2 : gFr w1 w2) : gFr zw w2 := ⟨Nat.le_trans h.1 h2.1, fun k z1 z2 => (h2.2 k z1 z2).trans (h.2 k z1 z2)⟩
theorem gFr.o {q : Nat} {zw w1 : va_W} (h : oFr q zw w1) (hq : q < 8 ∨ 31 ≤ q) : gFr zw w1 := ⟨Nat.le_of_eq h.1.symm, fun k z1 z2 => h.2 k (by omega)⟩
theorem askF_j (ar : Nat → Nat → Int32) (ja : Nat) (y : Int32) : askF (va_up ar 21 (upd (ar 21) ja y)) ja = [.int (ar 18 ja), .int (dgs (ar 18 ja) 6), .int (ar 19 ja), .int (ar 20 ja), .int y] := by
  show [Value.int (ar 18 ja), .int (dgs (ar 18 ja) 6), .int (ar 19 ja), .int (ar 20 ja), .int (upd (ar 21) ja y ja)] = _
  rw [pk_us]
theorem askF_n (ar : Nat → Nat → Int32) {ja i : Nat} (y : Int32) (h : i ≠ ja) : askF (va_up ar 21 (upd (ar 21) ja y)) i = askF ar i := by
  show [Value.int (ar 18 i), .int (dgs (ar 18 i) 6), .int (ar 19 i), .int (ar 20 i), .int (upd (ar 21) ja y i)] = _
  rw [pk_un h]
  rfl
theorem CL.upd {E : gE} {zw w1 : va_W} {q ci a n qe : Nat} {G G1 : Nat → List Value} {pl : Nat → Nat} (h : CL E zw q ci a n G qe pl) (hq : q < 31) {j y : Nat} {v0 : List Value} (hj : j < n) (h0 : zw[pl j]? = some (y, .inr (ci, v0))) (h1 : w1[pl j]? = some (y, .inr (ci, G1 j))) (hO : oFr (pl j) zw w1) (hG : ∀ i, i < n → i ≠ j → G1 i = G i) : CL E w1 q ci a n G1 qe pl := by
  obtain ⟨mo, ea, f, z1, z2, z3, z4⟩ := h
  obtain ⟨yj, y1, y2, y3⟩ := z3 j hj
  refine ⟨mo, ea, f, (hO.2 q (by omega)).trans z1, ?_, fun i hi => ?_, z4⟩
  · rcases z2 with z2 | ⟨h5, cap, h6, h7⟩
    · exact Or.inl z2
    · refine Or.inr ⟨h5, cap, (hO.2 qe (fun e => ?_)).trans h6, h7⟩
      rw [e, y2] at h6
      cases h6
  · rcases Nat.decEq i j with hne | rfl
    · obtain ⟨yi, x1, x2, x3⟩ := z3 i hi
      exact ⟨yi, x1, by rw [hO.2 _ (fun e => hne (z4 i j hi hj e)), hG i hi hne]; exact x2, x3⟩
    · rw [h0] at y2
      obtain ⟨rfl⟩ := y2
      exact ⟨y, y1, h1, y3⟩
theorem CL.other {E : gE} {zw w1 : va_W} {q ci a n qe : Nat} {G : Nat → List Value} {pl : Nat → Nat} (h : CL E zw q ci a n G qe pl) (hq : q < 31) {p y cj : Nat} {vs : List Value} (hp : zw[p]? = some (y, .inr (cj, vs))) (hp31 : 31 ≤ p) (hc : cj ≠ ci) (hO : oFr p zw w1) : CL E w1 q ci a n G qe pl := by
  obtain ⟨mo, ea, f, z1, z2, z3, z4⟩ := h
  refine ⟨mo, ea, f, (hO.2 q (by omega)).trans z1, ?_, fun i hi => ?_, z4⟩
  · rcases z2 with z2 | ⟨h5, cap, h6, h7⟩
    · exact Or.inl z2
    · refine Or.inr ⟨h5, cap, (hO.2 qe (fun e => ?_)).trans h6, h7⟩
      rw [e, hp] at h6
      cases h6
  · obtain ⟨yi, x1, x2, x3⟩ := z3 i hi
    refine ⟨yi, x1, (hO.2 _ (fun e => ?_)).trans x2, x3⟩
    rw [e, hp] at x2
    cases x2
    exact hc rfl
theorem CL.congr {E : gE} {zw : va_W} {q ci a n qe : Nat} {G G1 : Nat → List Value} {pl : Nat → Nat} (h : CL E zw q ci a n G qe pl) (hG : ∀ i, i < n → G1 i = G i) : CL E zw q ci a n G1 qe pl := by
  obtain ⟨mo, ea, f, z1, z2, z3, z4⟩ := h
  refine ⟨mo, ea, f, z1, z2, fun i hi => ?_, z4⟩
  obtain ⟨yi, x1, x2, x3⟩ := z3 i hi
  exact ⟨yi, x1, by rw [hG i hi]; exact x2, x3⟩
theorem CF.fix {E : gE} {ca : Nat → Nat} {zw w1 : va_W} {t t1 : Int32} {ar : Nat → Nat → Int32} {dr ch dr1 ch1 : Nat → Int32} {ns np na : Nat} {qe : Nat → Nat} {pl : Nat → Nat → Nat} (h : CF E ca zw t ar dr ch ns np na qe pl) (h0 : w1[0]? = some (ca 0, .inr (6, cfs ca t1))) (h5 : w1[5]? = some (ca 5, .inl (gI E, 200, .inl dr1))) (h6 : w1[6]? = some (ca 6, .inl (gI E, 1200, .inl ch1))) (hw : ∀ k, k ≠ 0 → k ≠ 5 → k ≠ 6 → w1[k]? = zw[k]?) : CF E ca w1 t1 ar dr1 ch1 ns np na qe pl := by
  obtain ⟨z0, z4, z5, z6, z7, z1, z2, z3⟩ := h
  exact ⟨h0, (hw 4 (by decide) (by decide) (by decide)).trans z4, h5, h6, (hw 7 (by decide) (by decide) (by decide)).trans z7, z1.keep (fun k z => hw k (by omega) (by omega) (by omega)), z2.keep (fun k z => hw k (by omega) (by omega) (by omega)), z3.keep (fun k z => hw k (by omega) (by omega) (by omega))⟩
theorem inX5_drop_X5 : ∀ x ∈ wsX50, x ∈ wsX5_drop := by decide +kernel
theorem kwX5_drop_25 : Cond.fieldLink RX5 25 "SeriesMarks" "shortening" "LSeriesMarks$Shortening;" ∈ wsX5_drop := by decide +kernel
theorem kwX5_drop_43 : Cond.fieldLink RX5 43 "SeriesMarks" "tick" "I" ∈ wsX5_drop := by decide +kernel
set_option maxHeartbeats 4000000 in
set_option maxRecDepth 100000 in
theorem c_X5_drop (l : Launch) (E : gE) (zw : va_W) {ca : Nat → Nat} {t0 : Int32} {ar : Nat → Nat → Int32} {dr ch : Nat → Int32} {ns np na : Nat} {qe : Nat → Nat} {pl : Nat → Nat → Nat} (hC : CF E ca zw t0 ar dr ch ns np na qe pl) (hb : ns ≤ 120 ∧ np ≤ 2000 ∧ na ≤ 10) {tk : Nat} (htk : t0 = nI tk) (htk9 : tk ≤ 199) (mk is : Int32) : CtI l yX5_drop wsX5_drop ({ frames := 2, cells := 0, slots := 0, locals := 43 }) E [.ref (ca 0), .int mk, .int is] zw (fun r w1 => (((0 ≤ mk.toInt ∧ mk.toInt ≤ 5) ∧ r = b01 ((dr tk >>> (mk &&& 31)) &&& 1 = 1) ∧ CF E ca w1 t0 ar (upd dr tk (if is = 0 then dr tk &&& (((1 : Int32) <<< (mk &&& 31)) ^^^ (-1)) else dr tk ||| ((1 : Int32) <<< (mk &&& 31)))) ch ns np na qe pl ∧ gFr zw w1) ∨ (¬ (0 ≤ mk.toInt ∧ mk.toInt ≤ 5) ∧ zw = w1 ∧ r = (-1)))) 0 0 := by
  refine Ct.of (cc := cX5_drop) (nL := 4) (ret := (some .int)) (by decide) rfl (Nat.le_of_ble_eq_true rfl) ?_
  intro p e s m args below meth c C hr hnm
  refine v_eqlv (lv9 := [(0, .ref (ca 0)), (1, .int mk), (2, .int is)]) rfl ?_
  subst htk
  have hti := nI_toInt (n := tk) (by omega)
  obtain ⟨hX, h4, h5, h6, h7, hL1, hL2, hL3⟩ := id hC
  obtain ⟨fs1, hq1⟩ := hL1.cell
  obtain ⟨fs2, hq2⟩ := hL2.cell
  obtain ⟨fs3, hq3⟩ := hL3.cell
  refine v_iload_n C dX5_drop_0 rfl rfl ?_
  refine v_callSi C (c_X5_isMark l E zw _ ) (va_cwS 1 C.1.2.2.2.2 gX5_drop_X5_isMark rfl rfl rfl (by decide +kernel) ⟨by decide, by decide⟩) rfl rfl (Nat.le_of_ble_eq_true rfl) dX5_drop_1 ⟨Nat.le_of_ble_eq_true rfl, Nat.le_of_ble_eq_true rfl⟩ (fun r w1 hp => ?_)
  obtain ⟨rfl, hr9⟩ := hp
  rw [hr9]
  clear hr9
  refine v_if_ne (tgt := 9) C dX5_drop_4 (by decide) (fun c4 => ?_) (fun c4 => ?_)
  · have c4 := b01_n c4
    refine v_aload_n C dX5_drop_9 rfl rfl ?_
    refine v_get (v := .ref (ca 4)) C inX5_drop_X5 0 hX rfl 4 (by decide) kwX5_drop_25 rfl rfl dX5_drop_10 ?_
    refine v_iload_n C dX5_drop_13 rfl rfl ?_
    refine v_aload_n C dX5_drop_14 rfl rfl ?_
    refine v_get (v := .int (nI tk)) C inX5_drop_X5 0 hX rfl 0 (by decide) kwX5_drop_43 rfl rfl dX5_drop_15 ?_
    refine v_callVi C (c_X4_isDropped l E zw h4 h5 h6 _ htk9) (cwV 2 C.1.2.2.2.2 gX5_drop_X4_isDropped rfl rfl rfl (by decide +kernel) ⟨by decide, by decide⟩) 4 5 h4 rfl rfl rfl (Nat.le_of_ble_eq_true rfl) dX5_drop_18 ⟨Nat.le_of_ble_eq_true rfl, Nat.le_of_ble_eq_true rfl⟩ (fun r w1 hp => ?_)
    obtain ⟨rfl, hr9⟩ := hp
    rw [hr9]
    clear hr9
    refine v_callSi C (c_X5_asNumber l E zw _ (b01_or _)) (va_cwS 1 C.1.2.2.2.2 gX5_drop_X5_asNumber rfl rfl rfl (by decide +kernel) ⟨by decide, by decide⟩) rfl rfl (Nat.le_of_ble_eq_true rfl) dX5_drop_21 ⟨Nat.le_of_ble_eq_true rfl, Nat.le_of_ble_eq_true rfl⟩ (fun r w1 hp => ?_)
    obtain ⟨rfl, hr9⟩ := hp
    rw [hr9]
    clear hr9
    refine v_istore_n C dX5_drop_24 rfl (by decide) rfl ?_
    refine v_aload_n C dX5_drop_25 rfl rfl ?_
    refine v_at (pc9 := 26) rfl ?_
    refine v_get (v := .ref (ca 4)) C inX5_drop_X5 0 hX rfl 4 (by decide) kwX5_drop_25 rfl rfl dX5_drop_26 ?_
    refine v_iload_n C dX5_drop_29 rfl rfl ?_
    refine v_iload_n C dX5_drop_30 rfl rfl ?_
    refine v_aload_n C dX5_drop_31 rfl rfl ?_
    refine v_get (v := .int (nI tk)) C inX5_drop_X5 0 hX rfl 0 (by decide) kwX5_drop_43 rfl rfl dX5_drop_32 ?_
    refine v_callVu C (c_X4_setDropped l E zw h4 h5 h6 _ _ htk9) (cwV 3 C.1.2.2.2.2 gX5_drop_X4_setDropped rfl rfl rfl (by decide +kernel) ⟨by decide, by decide⟩) 4 5 h4 rfl rfl rfl (Nat.le_of_ble_eq_true rfl) dX5_drop_35 ⟨Nat.le_of_ble_eq_true rfl, Nat.le_of_ble_eq_true rfl⟩ (fun zw hp => ?_)
    obtain ⟨k5, hO⟩ := hp
    refine v_iload_n C dX5_drop_38 rfl rfl ?_
    refine v_iret C hr dX5_drop_39 (Nat.le_of_ble_eq_true rfl) (Nat.le_of_ble_eq_true rfl) ?_
    exact ⟨_, rfl, (by first | exact Or.inr ⟨c4, rfl, rfl⟩ | exact Or.inl ⟨c4, rfl, hC.fix ((hO.2 0 (by decide)).trans hX) k5 ((hO.2 6 (by decide)).trans h6) (fun k _ z _ => hO.2 k z), gFr.o hO (by decide)⟩)⟩
  · have c4 := b01_0 c4
    refine v_iconst (v := (-1)) C dX5_drop_7 (by decide) ?_
    refine v_iret C hr dX5_drop_8 (Nat.le_of_ble_eq_true rfl) (Nat.le_of_ble_eq_true rfl) ?_
    exact ⟨_, rfl, (by first | exact Or.inr ⟨c4, rfl, rfl⟩ | exact Or.inl ⟨c4, rfl, hC.fix ((hO.2 0 (by decide)).trans hX) k5 ((hO.2 6 (by decide)).trans h6) (fun k _ z _ => hO.2 k z), gFr.o hO (by decide)⟩)⟩
theorem inX5_fold_X5 : ∀ x ∈ wsX50, x ∈ wsX5_fold := by decide +kernel
theorem kwX5_fold_25 : Cond.fieldLink RX5 25 "SeriesMarks" "shortening" "LSeriesMarks$Shortening;" ∈ wsX5_fold := by decide +kernel
theorem kwX5_fold_43 : Cond.fieldLink RX5 43 "SeriesMarks" "tick" "I" ∈ wsX5_fold := by decide +kernel
set_option maxHeartbeats 4000000 in
set_option maxRecDepth 100000 in
theorem c_X5_fold (l : Launch) (E : gE) (zw : va_W) {ca : Nat → Nat} {t0 : Int32} {ar : Nat → Nat → Int32} {dr ch : Nat → Int32} {ns np na : Nat} {qe : Nat → Nat} {pl : Nat → Nat → Nat} (hC : CF E ca zw t0 ar dr ch ns np na qe pl) (hb : ns ≤ 120 ∧ np ≤ 2000 ∧ na ≤ 10) {tk : Nat} (htk : t0 = nI tk) (htk9 : tk ≤ 199) (mk a b : Int32) : CtI l yX5_fold wsX5_fold ({ frames := 3, cells := 0, slots := 0, locals := 75 }) E [.ref (ca 0), .int mk, .int a, .int b] zw (fun r w1 => ((((0 ≤ mk.toInt ∧ mk.toInt ≤ 5) ∧ (0 ≤ a.toInt ∧ a.toInt ≤ 7) ∧ 0 ≤ b.toInt ∧ b.toInt ≤ 7) ∧ r = (if (dgt (ch (6 * tk + mk.toNatClampNeg)) b) < (dgt (ch (6 * tk + mk.toNatClampNeg)) a) then (dgt (ch (6 * tk + mk.toNatClampNeg)) b) else (dgt (ch (6 * tk + mk.toNatClampNeg)) a)) ∧ CF E ca w1 t0 ar dr (upd ch (6 * tk + mk.toNatClampNeg) (ptC (ch (6 * tk + mk.toNatClampNeg)) (dgt (ch (6 * tk + mk.toNatClampNeg)) a) (dgt (ch (6 * tk + mk.toNatClampNeg)) b) (if (dgt (ch (6 * tk + mk.toNatClampNeg)) b) < (dgt (ch (6 * tk + mk.toNatClampNeg)) a) then (dgt (ch (6 * tk + mk.toNatClampNeg)) b) else (dgt (ch (6 * tk + mk.toNatClampNeg)) a)) 8)) ns np na qe pl ∧ gFr zw w1) ∨ (¬ ((0 ≤ mk.toInt ∧ mk.toInt ≤ 5) ∧ (0 ≤ a.toInt ∧ a.toInt ≤ 7) ∧ 0 ≤ b.toInt ∧ b.toInt ≤ 7) ∧ zw = w1 ∧ r = (-1)))) 0 0 := by
  refine Ct.of (cc := cX5_fold) (nL := 4) (ret := (some .int)) (by decide) rfl (Nat.le_of_ble_eq_true rfl) ?_
  intro p e s m args below meth c C hr hnm
  refine v_eqlv (lv9 := [(0, .ref (ca 0)), (1, .int mk), (2, .int a), (3, .int b)]) rfl ?_
  subst htk
  have hti := nI_toInt (n := tk) (by omega)
  obtain ⟨hX, h4, h5, h6, h7, hL1, hL2, hL3⟩ := id hC
  obtain ⟨fs1, hq1⟩ := hL1.cell
  obtain ⟨fs2, hq2⟩ := hL2.cell
  obtain ⟨fs3, hq3⟩ := hL3.cell
  refine v_iload_n C dX5_fold_0 rfl rfl ?_
  refine v_callSi C (c_X5_isMark l E zw _ ) (va_cwS 1 C.1.2.2.2.2 gX5_fold_X5_isMark rfl rfl rfl (by decide +kernel) ⟨by decide, by decide⟩) rfl rfl (Nat.le_of_ble_eq_true rfl) dX5_fold_1 ⟨Nat.le_of_ble_eq_true rfl, Nat.le_of_ble_eq_true rfl⟩ (fun r w1 hp => ?_)
  obtain ⟨rfl, hr9⟩ := hp
  rw [hr9]
  clear hr9
  refine v_if_eq (tgt := 21) C dX5_fold_4 (by decide) (fun c4 => ?_) (fun c4 => ?_)
  · have c4 := b01_0 c4
    refine v_iconst (v := (-1)) C dX5_fold_21 (by decide) ?_
    refine v_iret C hr dX5_fold_22 (Nat.le_of_ble_eq_true rfl) (Nat.le_of_ble_eq_true rfl) ?_
    exact ⟨_, rfl, (by first | exact Or.inr ⟨fun h => c4 h.1, rfl, rfl⟩ | exact Or.inr ⟨fun h => c11 h.2.1, rfl, rfl⟩ | exact Or.inr ⟨fun h => c18 h.2.2, rfl, rfl⟩ | exact Or.inl ⟨⟨c4, c11, c18⟩, by rw [em]; exact hr9, by rw [em]; exact hC.fix ((hO.2 0 (by decide)).trans hX) ((hO.2 5 (by decide)).trans h5) k6 (fun k _ _ z => hO.2 k z), gFr.o hO (by decide)⟩)⟩
  · have c4 := b01_n c4
    obtain ⟨mm, hmm, rfl⟩ := nI_ex2 (n := 5) c4.1 c4.2
    have em := nI_clamp (n := mm) (by omega)
    refine v_iload_n C dX5_fold_7 rfl rfl ?_
    refine v_callSi C (c_X5_isValue l E zw _ ) (va_cwS 1 C.1.2.2.2.2 gX5_fold_X5_isValue rfl rfl rfl (by decide +kernel) ⟨by decide, by decide⟩) rfl rfl (Nat.le_of_ble_eq_true rfl) dX5_fold_8 ⟨Nat.le_of_ble_eq_true rfl, Nat.le_of_ble_eq_true rfl⟩ (fun r w1 hp => ?_)
    obtain ⟨rfl, hr9⟩ := hp
    rw [hr9]
    clear hr9
    refine v_if_eq (tgt := 21) C dX5_fold_11 (by decide) (fun c11 => ?_) (fun c11 => ?_)
    · have c11 := b01_0 c11
      refine v_iconst (v := (-1)) C dX5_fold_21 (by decide) ?_
      refine v_iret C hr dX5_fold_22 (Nat.le_of_ble_eq_true rfl) (Nat.le_of_ble_eq_true rfl) ?_
      exact ⟨_, rfl, (by first | exact Or.inr ⟨fun h => c4 h.1, rfl, rfl⟩ | exact Or.inr ⟨fun h => c11 h.2.1, rfl, rfl⟩ | exact Or.inr ⟨fun h => c18 h.2.2, rfl, rfl⟩ | exact Or.inl ⟨⟨c4, c11, c18⟩, by rw [em]; exact hr9, by rw [em]; exact hC.fix ((hO.2 0 (by decide)).trans hX) ((hO.2 5 (by decide)).trans h5) k6 (fun k _ _ z => hO.2 k z), gFr.o hO (by decide)⟩)⟩
    · have c11 := b01_n c11
      refine v_iload_n C dX5_fold_14 rfl rfl ?_
      refine v_callSi C (c_X5_isValue l E zw _ ) (va_cwS 1 C.1.2.2.2.2 gX5_fold_X5_isValue rfl rfl rfl (by decide +kernel) ⟨by decide, by decide⟩) rfl rfl (Nat.le_of_ble_eq_true rfl) dX5_fold_15 ⟨Nat.le_of_ble_eq_true rfl, Nat.le_of_ble_eq_true rfl⟩ (fun r w1 hp => ?_)
      obtain ⟨rfl, hr9⟩ := hp
      rw [hr9]
      clear hr9
      refine v_if_ne (tgt := 23) C dX5_fold_18 (by decide) (fun c18 => ?_) (fun c18 => ?_)
      · have c18 := b01_n c18
        refine v_aload_n C dX5_fold_23 rfl rfl ?_
        refine v_get (v := .ref (ca 4)) C inX5_fold_X5 0 hX rfl 4 (by decide) kwX5_fold_25 rfl rfl dX5_fold_24 ?_
        refine v_iload_n C dX5_fold_27 rfl rfl ?_
        refine v_iload_n C dX5_fold_28 rfl rfl ?_
        refine v_iload_n C dX5_fold_29 rfl rfl ?_
        refine v_aload_n C dX5_fold_30 rfl rfl ?_
        refine v_get (v := .int (nI tk)) C inX5_fold_X5 0 hX rfl 0 (by decide) kwX5_fold_43 rfl rfl dX5_fold_31 ?_
        refine v_callVi C (c_X4_putTogether l E zw h4 h5 h6 (mm := mm) (by omega) _ _ htk9) (cwV 4 C.1.2.2.2.2 gX5_fold_X4_putTogether rfl rfl rfl (by decide +kernel) ⟨by decide, by decide⟩) 4 5 h4 rfl rfl rfl (Nat.le_of_ble_eq_true rfl) dX5_fold_34 ⟨Nat.le_of_ble_eq_true rfl, Nat.le_of_ble_eq_true rfl⟩ (fun r zw hp => ?_)
        obtain ⟨hr9, k6, hO⟩ := hp
        refine v_iret C hr dX5_fold_37 (Nat.le_of_ble_eq_true rfl) (Nat.le_of_ble_eq_true rfl) ?_
        exact ⟨_, rfl, (by first | exact Or.inr ⟨fun h => c4 h.1, rfl, rfl⟩ | exact Or.inr ⟨fun h => c11 h.2.1, rfl, rfl⟩ | exact Or.inr ⟨fun h => c18 h.2.2, rfl, rfl⟩ | exact Or.inl ⟨⟨c4, c11, c18⟩, by rw [em]; exact hr9, by rw [em]; exact hC.fix ((hO.2 0 (by decide)).trans hX) ((hO.2 5 (by decide)).trans h5) k6 (fun k _ _ z => hO.2 k z), gFr.o hO (by decide)⟩)⟩
      · have c18 := b01_0 c18
        refine v_iconst (v := (-1)) C dX5_fold_21 (by decide) ?_
        refine v_iret C hr dX5_fold_22 (Nat.le_of_ble_eq_true rfl) (Nat.le_of_ble_eq_true rfl) ?_
        exact ⟨_, rfl, (by first | exact Or.inr ⟨fun h => c4 h.1, rfl, rfl⟩ | exact Or.inr ⟨fun h => c11 h.2.1, rfl, rfl⟩ | exact Or.inr ⟨fun h => c18 h.2.2, rfl, rfl⟩ | exact Or.inl ⟨⟨c4, c11, c18⟩, by rw [em]; exact hr9, by rw [em]; exact hC.fix ((hO.2 0 (by decide)).trans hX) ((hO.2 5 (by decide)).trans h5) k6 (fun k _ _ z => hO.2 k z), gFr.o hO (by decide)⟩)⟩
theorem inX5_pass_X5 : ∀ x ∈ wsX50, x ∈ wsX5_pass := by decide +kernel
theorem kwX5_pass_43 : Cond.fieldLink RX5 43 "SeriesMarks" "tick" "I" ∈ wsX5_pass := by decide +kernel
theorem kwX5_pass_25 : Cond.fieldLink RX5 25 "SeriesMarks" "shortening" "LSeriesMarks$Shortening;" ∈ wsX5_pass := by decide +kernel
set_option maxHeartbeats 4000000 in
set_option maxRecDepth 100000 in
theorem c_X5_pass (l : Launch) (E : gE) (zw : va_W) {ca : Nat → Nat} {t0 : Int32} {ar : Nat → Nat → Int32} {dr ch : Nat → Int32} {ns np na : Nat} {qe : Nat → Nat} {pl : Nat → Nat → Nat} (hC : CF E ca zw t0 ar dr ch ns np na qe pl) (hb : ns ≤ 120 ∧ np ≤ 2000 ∧ na ≤ 10) {tk : Nat} (htk : t0 = nI tk) (htk9 : tk ≤ 199) (x : Int32) : CtI l yX5_pass wsX5_pass ({ frames := 2, cells := 0, slots := 0, locals := 63 }) E [.ref (ca 0), .int x] zw (fun r w1 => ((((1 ≤ x.toInt ∧ x.toInt ≤ 199) ∧ tk + x.toNatClampNeg ≤ 199) ∧ r = nI (tk + x.toNatClampNeg) ∧ CF E ca w1 (nI (tk + x.toNatClampNeg)) ar (cpR 1 dr tk x.toNatClampNeg) (cpR 6 ch tk x.toNatClampNeg) ns np na qe pl ∧ gFr zw w1) ∨ (¬ ((1 ≤ x.toInt ∧ x.toInt ≤ 199) ∧ tk + x.toNatClampNeg ≤ 199) ∧ zw = w1 ∧ r = if 1 ≤ x.toInt ∧ x.toInt ≤ 199 then (-4) else (-2)))) 0 0 := by
  refine Ct.of (cc := cX5_pass) (nL := 2) (ret := (some .int)) (by decide) rfl (Nat.le_of_ble_eq_true rfl) ?_
  intro p e s m args below meth c C hr hnm
  refine v_eqlv (lv9 := [(0, .ref (ca 0)), (1, .int x)]) rfl ?_
  subst htk
  have hti := nI_toInt (n := tk) (by omega)
  obtain ⟨hX, h4, h5, h6, h7, hL1, hL2, hL3⟩ := id hC
  obtain ⟨fs1, hq1⟩ := hL1.cell
  obtain ⟨fs2, hq2⟩ := hL2.cell
  obtain ⟨fs3, hq3⟩ := hL3.cell
  refine v_iload_n C dX5_pass_0 rfl rfl ?_
  refine v_iconst (v := 1) C dX5_pass_1 (by decide) ?_
  refine v_icmp_lt (tgt := 12) C dX5_pass_2 (by decide) (fun c2 => ?_) (fun c2 => ?_)
  · rw [fa_lt, ti_1] at c2
    refine v_bipush (v := (-2)) C dX5_pass_12 (by decide) ?_
    refine v_iret C hr dX5_pass_14 (Nat.le_of_ble_eq_true rfl) (Nat.le_of_ble_eq_true rfl) ?_
    exact ⟨_, rfl, Or.inr ⟨fun h => by omega, rfl, by rw [if_neg (fun h => by omega)]⟩⟩
  · refine v_iload_n C dX5_pass_5 rfl rfl ?_
    refine v_sipush (v := 199) C dX5_pass_6 (by decide) ?_
    refine v_icmp_le (tgt := 15) C dX5_pass_9 (by decide) (fun c9 => ?_) (fun c9 => ?_)
    · rw [fa_le, ti_199] at c9
      rw [fa_lt, ti_1] at c2
      obtain ⟨xx, hxx, rfl⟩ := nI_ex2 (n := 199) (x := x) (by omega) (by omega)
      have ex := nI_clamp (n := xx) (by omega)
      have hxi := nI_toInt (n := xx) (by omega)
      refine v_aload_n C dX5_pass_15 rfl rfl ?_
      refine v_get (v := .int (nI tk)) C inX5_pass_X5 0 hX rfl 0 (by decide) kwX5_pass_43 rfl rfl dX5_pass_16 ?_
      refine v_iload_n C dX5_pass_19 rfl rfl ?_
      refine v_iadd C dX5_pass_20 ?_
      refine v_tov (nI_add tk xx) ?_
      refine v_sipush (v := 199) C dX5_pass_21 (by decide) ?_
      refine v_icmp_le (tgt := 30) C dX5_pass_24 (by decide) (fun c24 => ?_) (fun c24 => ?_)
      · rw [fa_le, ti_199, nI_toInt (by omega)] at c24
        refine v_aload_n C dX5_pass_30 rfl rfl ?_
        refine v_get (v := .ref (ca 4)) C inX5_pass_X5 0 hX rfl 4 (by decide) kwX5_pass_25 rfl rfl dX5_pass_31 ?_
        refine v_aload_n C dX5_pass_34 rfl rfl ?_
        refine v_get (v := .int (nI tk)) C inX5_pass_X5 0 hX rfl 0 (by decide) kwX5_pass_43 rfl rfl dX5_pass_35 ?_
        refine v_aload_n C dX5_pass_38 rfl rfl ?_
        refine v_get (v := .int (nI tk)) C inX5_pass_X5 0 hX rfl 0 (by decide) kwX5_pass_43 rfl rfl dX5_pass_39 ?_
        refine v_iload_n C dX5_pass_42 rfl rfl ?_
        refine v_iadd C dX5_pass_43 ?_
        refine v_tov (nI_add tk xx) ?_
        refine v_callVu C (c_X4_carryOn l E zw h4 h5 h6 (by decide) (by decide) (by decide) (tk := tk) (nn := xx) (by omega)) (cwV 2 C.1.2.2.2.2 gX5_pass_X4_carryOn rfl rfl rfl (by decide +kernel) ⟨by decide, by decide⟩) 4 5 h4 rfl rfl rfl (Nat.le_of_ble_eq_true rfl) dX5_pass_44 ⟨Nat.le_of_ble_eq_true rfl, Nat.le_of_ble_eq_true rfl⟩ (fun zw hp => ?_)
        obtain ⟨k5, k6, kl, kf⟩ := hp
        have hX1 := (kf 0 (by decide) (by decide)).trans hX
        refine v_aload_n C dX5_pass_47 rfl rfl ?_
        refine v_dup C dX5_pass_48 rfl ?_
        refine v_get (v := .int (nI tk)) C inX5_pass_X5 0 hX1 rfl 0 (by decide) kwX5_pass_43 rfl rfl dX5_pass_49 ?_
        refine v_iload_n C dX5_pass_52 rfl rfl ?_
        refine v_iadd C dX5_pass_53 ?_
        refine v_tov (nI_add tk xx) ?_
        refine vo_put (ty := .int) C inX5_pass_X5 tyX5 tyX5_ok nmX5 0 hX1 rfl 0 (by decide) kwX5_pass_43 rfl rfl (by decide +kernel) rfl rfl (Nat.le_of_ble_eq_true rfl) dX5_pass_54 (fun zw hX2 hO => ?_)
        have hX2 : zw[0]? = some (ca 0, .inr (6, cfs ca (nI (tk + xx)))) := hX2
        refine v_aload_n C dX5_pass_57 rfl rfl ?_
        refine v_get (v := .int (nI (tk + xx))) C inX5_pass_X5 0 hX2 rfl 0 (by decide) kwX5_pass_43 rfl rfl dX5_pass_58 ?_
        refine v_iret C hr dX5_pass_61 (Nat.le_of_ble_eq_true rfl) (Nat.le_of_ble_eq_true rfl) ?_
        exact ⟨_, rfl, Or.inl ⟨⟨by omega, by rw [ex]; omega⟩, by rw [ex], by rw [ex]; exact hC.fix hX2 ((hO.2 5 (by decide)).trans k5) ((hO.2 6 (by decide)).trans k6) (fun k z1 z2 z3 => (hO.2 k z1).trans (kf k z2 z3)), ⟨by rw [hO.1, kl]; exact Nat.le_refl _, fun k z1 z2 => (hO.2 k (by omega)).trans (kf k (by omega) (by omega))⟩⟩⟩
      · rw [fa_le, ti_199, nI_toInt (by omega)] at c24
        refine v_bipush (v := (-4)) C dX5_pass_27 (by decide) ?_
        refine v_iret C hr dX5_pass_29 (Nat.le_of_ble_eq_true rfl) (Nat.le_of_ble_eq_true rfl) ?_
        exact ⟨_, rfl, Or.inr ⟨fun h => by rw [ex] at h; omega, rfl, by rw [if_pos (by omega)]⟩⟩
    · rw [fa_le, ti_199] at c9
      rw [fa_lt, ti_1] at c2
      refine v_bipush (v := (-2)) C dX5_pass_12 (by decide) ?_
      refine v_iret C hr dX5_pass_14 (Nat.le_of_ble_eq_true rfl) (Nat.le_of_ble_eq_true rfl) ?_
      exact ⟨_, rfl, Or.inr ⟨fun h => by omega, rfl, by rw [if_neg (fun h => by omega)]⟩⟩
theorem inX5_weigh_X5 : ∀ x ∈ wsX50, x ∈ wsX5_weigh := by decide +kernel
theorem kwX5_weigh_19 : Cond.fieldLink RX5 19 "SeriesMarks" "askings" "Ljava/util/ArrayList;" ∈ wsX5_weigh := by decide +kernel
theorem kwX5_weigh_cl178 : Cond.classLink RX5 178 "SeriesMarks$Asking" ∈ wsX5_weigh := by decide +kernel
set_option maxHeartbeats 4000000 in
set_option maxRecDepth 100000 in
theorem c_X5_weigh (l : Launch) (E : gE) (zw : va_W) {ca : Nat → Nat} {t0 : Int32} {ar : Nat → Nat → Int32} {dr ch : Nat → Int32} {ns np na : Nat} {qe : Nat → Nat} {pl : Nat → Nat → Nat} (hC : CF E ca zw t0 ar dr ch ns np na qe pl) (hb : ns ≤ 120 ∧ np ≤ 2000 ∧ na ≤ 10) (of x y : Int32) : CtI l yX5_weigh wsX5_weigh ({ frames := 3, cells := 0, slots := 0, locals := 64 }) E [.ref (ca 0), .int of, .int x, .int y] zw (fun r w1 => ((((if of = 0 then 0 ≤ x.toInt ∧ x.toInt ≤ 5 else 0 ≤ x.toInt ∧ x.toInt < na) ∧ 0 ≤ y.toInt ∧ y.toInt ≤ 1000) ∧ r = (if of = 0 then ar 22 x.toNatClampNeg else ar 21 x.toNatClampNeg) ∧ CF E ca w1 t0 (if of = 0 then va_up ar 22 (upd (ar 22) x.toNatClampNeg y) else va_up ar 21 (upd (ar 21) x.toNatClampNeg y)) dr ch ns np na qe pl ∧ gFr zw w1) ∨ (¬ ((if of = 0 then 0 ≤ x.toInt ∧ x.toInt ≤ 5 else 0 ≤ x.toInt ∧ x.toInt < na) ∧ 0 ≤ y.toInt ∧ y.toInt ≤ 1000) ∧ zw = w1 ∧ r = if (if of = 0 then 0 ≤ x.toInt ∧ x.toInt ≤ 5 else 0 ≤ x.toInt ∧ x.toInt < na) then (-2) else (-1)))) 0 0 := by
  refine Ct.of (cc := cX5_weigh) (nL := 5) (ret := (some .int)) (by decide) rfl (Nat.le_of_ble_eq_true rfl) ?_
  intro p e s m args below meth c C hr hnm
  refine v_eqlv (lv9 := [(0, .ref (ca 0)), (1, .int of), (2, .int x), (3, .int y)]) rfl ?_
  obtain ⟨hX, h4, h5, h6, h7, hL1, hL2, hL3⟩ := id hC
  obtain ⟨fs1, hq1⟩ := hL1.cell
  obtain ⟨fs2, hq2⟩ := hL2.cell
  obtain ⟨fs3, hq3⟩ := hL3.cell
  refine v_iload_n C dX5_weigh_0 rfl rfl ?_
  refine v_if_eq (tgt := 12) C dX5_weigh_1 (by decide) (fun c1 => ?_) (fun c1 => ?_)
  · skip
    refine v_iload_n C dX5_weigh_12 rfl rfl ?_
    refine v_callSi C (c_X5_isMark l E zw _ ) (va_cwS 1 C.1.2.2.2.2 gX5_weigh_X5_isMark rfl rfl rfl (by decide +kernel) ⟨by decide, by decide⟩) rfl rfl (Nat.le_of_ble_eq_true rfl) dX5_weigh_13 ⟨Nat.le_of_ble_eq_true rfl, Nat.le_of_ble_eq_true rfl⟩ (fun r w1 hp => ?_)
    obtain ⟨rfl, hr9⟩ := hp
    rw [hr9]
    clear hr9
    refine v_istore C dX5_weigh_16 (by decide) rfl ?_
    refine v_iload C dX5_weigh_18 rfl ?_
    refine v_if_ne (tgt := 25) C dX5_weigh_20 (by decide) (fun c20 => ?_) (fun c20 => ?_)
    · have c20 := b01_n c20
      refine v_iload_n C dX5_weigh_25 rfl rfl ?_
      refine v_if_lt (tgt := 36) C dX5_weigh_26 (by decide) (fun c26 => ?_) (fun c26 => ?_)
      · rw [fa_lt, ti_0] at c26
        refine v_bipush (v := (-2)) C dX5_weigh_36 (by decide) ?_
        refine v_iret C hr dX5_weigh_38 (Nat.le_of_ble_eq_true rfl) (Nat.le_of_ble_eq_true rfl) ?_
        exact ⟨_, rfl, Or.inr ⟨fun h => by omega, rfl, (if_pos (by rw [if_pos c1]; exact c20)).symm⟩⟩
      · refine v_iload_n C dX5_weigh_29 rfl rfl ?_
        refine v_sipush (v := 1000) C dX5_weigh_30 (by decide) ?_
        refine v_icmp_le (tgt := 39) C dX5_weigh_33 (by decide) (fun c33 => ?_) (fun c33 => ?_)
        · rw [fa_le, ti_1000] at c33
          rw [fa_lt, ti_0] at c26
          refine v_iload_n C dX5_weigh_39 rfl rfl ?_
          refine v_if_eq (tgt := 61) C dX5_weigh_40 (by decide) (fun c40 => ?_) (fun c40 => absurd c1 c40)
          obtain ⟨mm, hmm, rfl⟩ := nI_ex2 (n := 5) c20.1 c20.2
          have em := nI_clamp (n := mm) (by omega)
          refine v_aload_n C dX5_weigh_61 rfl rfl ?_
          refine v_iload_n C dX5_weigh_62 rfl rfl ?_
          refine v_iload_n C dX5_weigh_63 rfl rfl ?_
          refine v_callVi C (c_X5_changeWeight l E zw hC hb (mm := mm) (by omega) _) (cwV 2 C.1.2.2.2.2 gX5_weigh_X5_changeWeight rfl rfl rfl (by decide +kernel) ⟨by decide, by decide⟩) 0 6 hX rfl rfl rfl (Nat.le_of_ble_eq_true rfl) dX5_weigh_64 ⟨Nat.le_of_ble_eq_true rfl, Nat.le_of_ble_eq_true rfl⟩ (fun r zw hp => ?_)
          obtain ⟨hr9, k7, hO⟩ := hp
          refine v_iret C hr dX5_weigh_67 (Nat.le_of_ble_eq_true rfl) (Nat.le_of_ble_eq_true rfl) ?_
          exact ⟨_, rfl, Or.inl ⟨⟨by rw [if_pos c1]; exact c20, by omega⟩, by rw [if_pos c1, em]; exact hr9, by rw [if_pos c1, em]; exact ⟨(hO.2 0 (by decide)).trans hX, (hO.2 4 (by decide)).trans h4, (hO.2 5 (by decide)).trans h5, (hO.2 6 (by decide)).trans h6, k7, hL1.keep (fun k z => hO.2 k (by omega)), hL2.keep (fun k z => hO.2 k (by omega)), hL3.keep (fun k z => hO.2 k (by omega))⟩, gFr.o hO (by decide)⟩⟩
        · rw [fa_le, ti_1000] at c33
          rw [fa_lt, ti_0] at c26
          refine v_bipush (v := (-2)) C dX5_weigh_36 (by decide) ?_
          refine v_iret C hr dX5_weigh_38 (Nat.le_of_ble_eq_true rfl) (Nat.le_of_ble_eq_true rfl) ?_
          exact ⟨_, rfl, Or.inr ⟨fun h => by omega, rfl, (if_pos (by rw [if_pos c1]; exact c20)).symm⟩⟩
    · have c20 := b01_0 c20
      refine v_iconst (v := (-1)) C dX5_weigh_23 (by decide) ?_
      refine v_iret C hr dX5_weigh_24 (Nat.le_of_ble_eq_true rfl) (Nat.le_of_ble_eq_true rfl) ?_
      exact ⟨_, rfl, Or.inr ⟨fun h => by have h1 := h.1; rw [if_pos c1] at h1; exact c20 h1, rfl, (if_neg (fun h => by rw [if_pos c1] at h; exact c20 h)).symm⟩⟩
  · skip
    refine v_aload_n C dX5_weigh_4 rfl rfl ?_
    refine v_iload_n C dX5_weigh_5 rfl rfl ?_
    refine v_callVi C (c_X5_isAsking l E zw hC hb _) (cwV 1 C.1.2.2.2.2 gX5_weigh_X5_isAsking rfl rfl rfl (by decide +kernel) ⟨by decide, by decide⟩) 0 6 hX rfl rfl rfl (Nat.le_of_ble_eq_true rfl) dX5_weigh_6 ⟨Nat.le_of_ble_eq_true rfl, Nat.le_of_ble_eq_true rfl⟩ (fun r w1 hp => ?_)
    obtain ⟨rfl, hr9⟩ := hp
    rw [hr9]
    clear hr9
    refine v_goto (tgt := 16) C dX5_weigh_9 (by decide) ?_
    refine v_istore C dX5_weigh_16 (by decide) rfl ?_
    refine v_iload C dX5_weigh_18 rfl ?_
    refine v_if_ne (tgt := 25) C dX5_weigh_20 (by decide) (fun c20 => ?_) (fun c20 => ?_)
    · have c20 := b01_n c20
      refine v_iload_n C dX5_weigh_25 rfl rfl ?_
      refine v_if_lt (tgt := 36) C dX5_weigh_26 (by decide) (fun c26 => ?_) (fun c26 => ?_)
      · rw [fa_lt, ti_0] at c26
        refine v_bipush (v := (-2)) C dX5_weigh_36 (by decide) ?_
        refine v_iret C hr dX5_weigh_38 (Nat.le_of_ble_eq_true rfl) (Nat.le_of_ble_eq_true rfl) ?_
        exact ⟨_, rfl, Or.inr ⟨fun h => by omega, rfl, (if_pos (by rw [if_neg c1]; exact c20)).symm⟩⟩
      · refine v_iload_n C dX5_weigh_29 rfl rfl ?_
        refine v_sipush (v := 1000) C dX5_weigh_30 (by decide) ?_
        refine v_icmp_le (tgt := 39) C dX5_weigh_33 (by decide) (fun c33 => ?_) (fun c33 => ?_)
        · rw [fa_le, ti_1000] at c33
          rw [fa_lt, ti_0] at c26
          refine v_iload_n C dX5_weigh_39 rfl rfl ?_
          refine v_if_eq (tgt := 61) C dX5_weigh_40 (by decide) (fun c40 => absurd c40 c1) (fun c40 => ?_)
          obtain ⟨ja, hja, rfl⟩ := nI_ex c20.1 c20.2
          have em := nI_clamp (n := ja) (by omega)
          refine v_aload_n C dX5_weigh_43 rfl rfl ?_
          refine v_get (v := .ref (ca 3)) C inX5_weigh_X5 0 hX rfl 3 (by decide) kwX5_weigh_19 rfl rfl dX5_weigh_44 ?_
          refine v_iload_n C dX5_weigh_47 rfl rfl ?_
          refine v_callVa C (hL3.get l (j := ja) hja) (cwV 1 C.1.2.2.2.2 gX5_weigh_Jx4a65c_get_915e3 rfl rfl rfl (by decide +kernel) ⟨by decide, by decide⟩) 3 0 hq3 rfl rfl rfl (Nat.le_of_ble_eq_true rfl) dX5_weigh_48 ⟨Nat.le_of_ble_eq_true rfl, Nat.le_of_ble_eq_true rfl⟩ (fun rq w1 hp => ?_)
          obtain ⟨rfl, hob⟩ := hp
          refine v_cast C kwX5_weigh_cl178 (pl 3 ja) hob rfl dX5_weigh_51 ?_
          refine v_iload_n C dX5_weigh_54 rfl rfl ?_
          refine v_callVi C (c_X0_changeWorth l E zw hob _) (cwV 1 C.1.2.2.2.2 gX5_weigh_X0_changeWorth rfl rfl rfl (by decide +kernel) ⟨by decide, by decide⟩) (pl 3 ja) 1 hob rfl rfl rfl (Nat.le_of_ble_eq_true rfl) dX5_weigh_55 ⟨Nat.le_of_ble_eq_true rfl, Nat.le_of_ble_eq_true rfl⟩ (fun r zw hp => ?_)
          obtain ⟨hr9, k7, hO⟩ := hp
          have hp31 := hL3.pl hja
          refine v_at (pc9 := 58) rfl ?_
          refine v_goto (tgt := 67) C dX5_weigh_58 (by decide) ?_
          refine v_iret C hr dX5_weigh_67 (Nat.le_of_ble_eq_true rfl) (Nat.le_of_ble_eq_true rfl) ?_
          exact ⟨_, rfl, Or.inl ⟨⟨by rw [if_neg c1]; exact c20, by omega⟩, by rw [if_neg c1, em]; exact hr9, by rw [if_neg c1, em]; exact ⟨(hO.2 0 (by omega)).trans hX, (hO.2 4 (by omega)).trans h4, (hO.2 5 (by omega)).trans h5, (hO.2 6 (by omega)).trans h6, (hO.2 7 (by omega)).trans h7, hL1.other (by decide) hob hp31 (by decide) hO, hL2.other (by decide) hob hp31 (by decide) hO, hL3.upd (G1 := askF (va_up ar 21 (upd (ar 21) ja y))) (by decide) hja hob (by rw [askF_j]; exact k7) hO (fun i _ hi => askF_n ar y hi)⟩, gFr.o hO (Or.inr hp31)⟩⟩
        · rw [fa_le, ti_1000] at c33
          rw [fa_lt, ti_0] at c26
          refine v_bipush (v := (-2)) C dX5_weigh_36 (by decide) ?_
          refine v_iret C hr dX5_weigh_38 (Nat.le_of_ble_eq_true rfl) (Nat.le_of_ble_eq_true rfl) ?_
          exact ⟨_, rfl, Or.inr ⟨fun h => by omega, rfl, (if_pos (by rw [if_neg c1]; exact c20)).symm⟩⟩
    · have c20 := b01_0 c20
      refine v_iconst (v := (-1)) C dX5_weigh_23 (by decide) ?_
      refine v_iret C hr dX5_weigh_24 (Nat.le_of_ble_eq_true rfl) (Nat.le_of_ble_eq_true rfl) ?_
      exact ⟨_, rfl, Or.inr ⟨fun h => by have h1 := h.1; rw [if_neg c1] at h1; exact c20 h1, rfl, (if_neg (fun h => by rw [if_neg c1] at h; exact c20 h)).symm⟩⟩
