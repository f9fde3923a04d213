theorem inX6_drop_X6 : ∀ x ∈ wsX60, x ∈ wsX6_drop := by decide +kernel
theorem kwX6_drop_7 : Cond.fieldLink RX6 7 "SeriesMarksModel" "dropped" "[Z" ∈ wsX6_drop := by decide +kernel
theorem kwX6_drop_65 : Cond.fieldLink RX6 65 "SeriesMarksModel" "tick" "I" ∈ wsX6_drop := by decide +kernel
set_option maxHeartbeats 4000000 in
set_option maxRecDepth 100000 in
theorem c_X6_drop (l : Launch) (E : gE) (zw : va_W) {ad : Nat → Nat} {g : Nat → Int32} {ar : Nat → Nat → Int32} (hM : mAt zw (mcl E ad g ar)) {tk ns np na : Nat} (hI : MI g ar tk ns np na) (mk is : Int32) (his : is = 0 ∨ is = 1) : CtI l yX6_drop wsX6_drop ({ frames := 2, cells := 0, slots := 0, locals := 45 }) E [.ref (ad 0), .int mk, .int is] zw (fun r w1 => ∃ ar1 : Nat → Nat → Int32, mAt w1 (mcl E ad g ar1) ∧ mFr zw w1 ∧ ar1 = (if 0 ≤ mk.toInt ∧ mk.toInt ≤ 5 then va_up ar 1 (upd (ar 1) (6 * tk + mk.toNatClampNeg) is) else ar) ∧ r = if 0 ≤ mk.toInt ∧ mk.toInt ≤ 5 then ar 1 (6 * tk + mk.toNatClampNeg) else (-1)) 0 0 := by
  refine Ct.of (cc := cX6_drop) (nL := 4) (ret := (some .int)) (by decide) rfl (Nat.le_of_ble_eq_true rfl) ?_
  intro p e s m args below meth c C hr hnm
  refine v_eqlv (lv9 := [(0, .ref (ad 0)), (1, .int mk), (2, .int is)]) rfl ?_
  obtain ⟨w0, hw0⟩ : ∃ w0 : va_W, w0 = zw := ⟨_, rfl⟩
  have hF : mFr w0 zw := by rw [hw0]; exact mFr.rf zw
  refine v_iload_n C dX6_drop_0 rfl rfl ?_
  refine v_callSi C (c_X6_isMark l E zw _) (va_cwS 1 C.1.2.2.2.2 gX6_drop_X6_isMark rfl rfl rfl (by decide +kernel) ⟨by decide, by decide⟩) rfl rfl (Nat.le_of_ble_eq_true rfl) dX6_drop_1 ⟨Nat.le_of_ble_eq_true rfl, Nat.le_of_ble_eq_true rfl⟩ (fun r w1 hp => ?_)
  obtain ⟨rfl, rfl⟩ := hp
  refine v_if_ne (tgt := 9) C dX6_drop_4 (by decide) (fun c4 => ?_) (fun c4 => ?_)
  · have c4 := b01_n c4
    have ht9 := hI.tick
    obtain ⟨mm, hmm, rfl⟩ : ∃ mm : Nat, mm ≤ 5 ∧ mk = nI mm := ⟨mk.toInt.toNat, by omega, nI_nat c4.1⟩
    refine v_aload_n C dX6_drop_9 rfl rfl ?_
    refine vm_get (v := .ref (ad 1)) C hM inX6_drop_X6 1 (by decide) kwX6_drop_7 rfl rfl dX6_drop_10 ?_
    refine v_bipush (v := 6) C dX6_drop_13 (by decide) ?_
    refine v_aload_n C dX6_drop_15 rfl rfl ?_
    refine vm_get (v := .int (g 0)) C hM inX6_drop_X6 0 (by decide) kwX6_drop_65 rfl rfl dX6_drop_16 ?_
    refine v_imul C dX6_drop_19 ?_
    refine v_iload_n C dX6_drop_20 rfl rfl ?_
    refine v_iadd C dX6_drop_21 ?_
    refine v_tov (show 6 * g 0 + nI mm = nI (6 * tk + mm) by rw [hI.1.1, ix6]) ?_
    refine vm_zald (f := ar 1) C hM 1 rfl (vp_in_nI (by omega) (by decide)) dX6_drop_22 ?_
    refine v_at (pc9 := 23) rfl ?_
    refine v_tov (congrArg (ar 1) (nI_clamp (show 6 * tk + mm < 2 ^ 31 by omega))) ?_
    refine v_if_eq (tgt := 30) C dX6_drop_23 (by decide) (fun c23 => ?_) (fun c23 => ?_)
    · refine v_iconst (v := 0) C dX6_drop_30 (by decide) ?_
      refine v_tov (y := ar 1 (6 * tk + mm)) (by first | exact c23.symm | exact ((hI.dr _ (by omega)).resolve_left c23).symm) ?_
      refine v_istore_n C dX6_drop_31 rfl (by decide) rfl ?_
      refine v_aload_n C dX6_drop_32 rfl rfl ?_
      refine vm_get (v := .ref (ad 1)) C hM inX6_drop_X6 1 (by decide) kwX6_drop_7 rfl rfl dX6_drop_33 ?_
      refine v_bipush (v := 6) C dX6_drop_36 (by decide) ?_
      refine v_aload_n C dX6_drop_38 rfl rfl ?_
      refine vm_get (v := .int (g 0)) C hM inX6_drop_X6 0 (by decide) kwX6_drop_65 rfl rfl dX6_drop_39 ?_
      refine v_imul C dX6_drop_42 ?_
      refine v_iload_n C dX6_drop_43 rfl rfl ?_
      refine v_at (pc9 := 44) rfl ?_
      refine v_iadd C dX6_drop_44 ?_
      refine v_tov (show 6 * g 0 + nI mm = nI (6 * tk + mm) by rw [hI.1.1, ix6]) ?_
      refine v_iload_n C dX6_drop_45 rfl rfl ?_
      refine vm_zast C hM hF 1 1 rfl (vp_in_nI (by omega) (by decide)) rfl dX6_drop_46 (fun zw hM hF => ?_)
      rw [nI_clamp (show 6 * tk + mm < 2 ^ 31 by omega), show vp_nar .boolean is = is from by rcases his with rfl | rfl <;> rfl] at hM
      refine v_iload_n C dX6_drop_47 rfl rfl ?_
      exact v_iret C hr dX6_drop_48 (Nat.le_refl _) (Nat.le_refl _) ⟨_, rfl, (by first | exact ⟨_, hM, hw0 ▸ hF, by rw [if_pos c4, nI_clamp (by omega)], by rw [if_pos c4, nI_clamp (by omega)]⟩ | exact ⟨_, hM, hw0 ▸ hF, by rw [if_neg c4], by rw [if_neg c4]⟩)⟩
    · refine v_iconst (v := 1) C dX6_drop_26 (by decide) ?_
      refine v_goto (tgt := 31) C dX6_drop_27 (by decide) ?_
      refine v_tov (y := ar 1 (6 * tk + mm)) (by first | exact c23.symm | exact ((hI.dr _ (by omega)).resolve_left c23).symm) ?_
      refine v_istore_n C dX6_drop_31 rfl (by decide) rfl ?_
      refine v_aload_n C dX6_drop_32 rfl rfl ?_
      refine vm_get (v := .ref (ad 1)) C hM inX6_drop_X6 1 (by decide) kwX6_drop_7 rfl rfl dX6_drop_33 ?_
      refine v_bipush (v := 6) C dX6_drop_36 (by decide) ?_
      refine v_aload_n C dX6_drop_38 rfl rfl ?_
      refine vm_get (v := .int (g 0)) C hM inX6_drop_X6 0 (by decide) kwX6_drop_65 rfl rfl dX6_drop_39 ?_
      refine v_imul C dX6_drop_42 ?_
      refine v_at (pc9 := 43) rfl ?_
      refine v_iload_n C dX6_drop_43 rfl rfl ?_
      refine v_iadd C dX6_drop_44 ?_
      refine v_tov (show 6 * g 0 + nI mm = nI (6 * tk + mm) by rw [hI.1.1, ix6]) ?_
      refine v_iload_n C dX6_drop_45 rfl rfl ?_
      refine vm_zast C hM hF 1 1 rfl (vp_in_nI (by omega) (by decide)) rfl dX6_drop_46 (fun zw hM hF => ?_)
      rw [nI_clamp (show 6 * tk + mm < 2 ^ 31 by omega), show vp_nar .boolean is = is from by rcases his with rfl | rfl <;> rfl] at hM
      refine v_iload_n C dX6_drop_47 rfl rfl ?_
      exact v_iret C hr dX6_drop_48 (Nat.le_refl _) (Nat.le_refl _) ⟨_, rfl, (by first | exact ⟨_, hM, hw0 ▸ hF, by rw [if_pos c4, nI_clamp (by omega)], by rw [if_pos c4, nI_clamp (by omega)]⟩ | exact ⟨_, hM, hw0 ▸ hF, by rw [if_neg c4], by rw [if_neg c4]⟩)⟩
  · have c4 := b01_0 c4
    refine v_iconst (v := (-1)) C dX6_drop_7 (by decide) ?_
    exact v_iret C hr dX6_drop_8 (Nat.le_refl _) (Nat.le_refl _) ⟨_, rfl, (by first | exact ⟨_, hM, hw0 ▸ hF, by rw [if_pos c4, nI_clamp (by omega)], by rw [if_pos c4, nI_clamp (by omega)]⟩ | exact ⟨_, hM, hw0 ▸ hF, by rw [if_neg c4], by rw [if_neg c4]⟩)⟩
theorem kwX6_weigh_c165 : Cond.constantLong RX6 165 (1000) ∈ wsX6_weigh := by decide +kernel
theorem inX6_weigh_X6 : ∀ x ∈ wsX60, x ∈ wsX6_weigh := by decide +kernel
theorem kwX6_weigh_62 : Cond.fieldLink RX6 62 "SeriesMarksModel" "weight" "[I" ∈ wsX6_weigh := by decide +kernel
theorem kwX6_weigh_59 : Cond.fieldLink RX6 59 "SeriesMarksModel" "worth" "[I" ∈ wsX6_weigh := by decide +kernel
set_option maxHeartbeats 4000000 in
set_option maxRecDepth 100000 in
theorem c_X6_weigh (l : Launch) (E : gE) (zw : va_W) {ad : Nat → Nat} {g : Nat → Int32} {ar : Nat → Nat → Int32} (hM : mAt zw (mcl E ad g ar)) {tk ns np na : Nat} (hI : MI g ar tk ns np na) (of x y : Int32) : CtI l yX6_weigh wsX6_weigh ({ frames := 2, cells := 0, slots := 0, locals := 46 }) E [.ref (ad 0), .int of, .int x, .int y] zw (fun r w1 => ∃ ar1 : Nat → Nat → Int32, mAt w1 (mcl E ad g ar1) ∧ mFr zw w1 ∧ ar1 = (if (if of = 0 then 0 ≤ x.toInt ∧ x.toInt ≤ 5 else 0 ≤ x.toInt ∧ x.toInt < na) ∧ 0 ≤ y.toInt ∧ y.toInt ≤ 1000 then (if of = 0 then va_up ar 22 (upd (ar 22) x.toNatClampNeg y) else va_up ar 21 (upd (ar 21) x.toNatClampNeg y)) else ar) ∧ r = if (if of = 0 then 0 ≤ x.toInt ∧ x.toInt ≤ 5 else 0 ≤ x.toInt ∧ x.toInt < na) then (if 0 ≤ y.toInt ∧ y.toInt ≤ 1000 then (if of = 0 then ar 22 x.toNatClampNeg else ar 21 x.toNatClampNeg) else (-2)) else (-1)) 0 0 := by
  refine Ct.of (cc := cX6_weigh) (nL := 5) (ret := (some .int)) (by decide) rfl (Nat.le_of_ble_eq_true rfl) ?_
  intro p e s m args below meth c C hr hnm
  refine v_eqlv (lv9 := [(0, .ref (ad 0)), (1, .int of), (2, .int x), (3, .int y)]) rfl ?_
  obtain ⟨w0, hw0⟩ : ∃ w0 : va_W, w0 = zw := ⟨_, rfl⟩
  have hF : mFr w0 zw := by rw [hw0]; exact mFr.rf zw
  refine v_iload_n C dX6_weigh_0 rfl rfl ?_
  refine v_if_eq (tgt := 15) C dX6_weigh_1 (by decide) (fun c1 => ?_) (fun c1 => ?_)
  · refine v_iload_n C dX6_weigh_15 rfl rfl ?_
    refine v_callSi C (c_X6_isMark l E zw _) (va_cwS 1 C.1.2.2.2.2 gX6_weigh_X6_isMark rfl rfl rfl (by decide +kernel) ⟨by decide, by decide⟩) rfl rfl (Nat.le_of_ble_eq_true rfl) dX6_weigh_16 ⟨Nat.le_of_ble_eq_true rfl, Nat.le_of_ble_eq_true rfl⟩ (fun r w1 hp => ?_)
    obtain ⟨rfl, rfl⟩ := hp
    refine v_if_ne (tgt := 24) C dX6_weigh_19 (by decide) (fun c19 => ?_) (fun c19 => ?_)
    · have c19 := b01_n c19
      have hW : (if of = 0 then 0 ≤ x.toInt ∧ x.toInt ≤ 5 else 0 ≤ x.toInt ∧ x.toInt < na) := by rw [if_pos c1]; exact c19
      refine v_iload_n C dX6_weigh_24 rfl rfl ?_
      refine v_i2l C dX6_weigh_25 rfl ?_
      refine v_lconst (v := 0) C dX6_weigh_26 (by decide) ?_
      refine v_ldc2 C kwX6_weigh_c165 dX6_weigh_27 ?_
      refine v_callSi C (c_X6_in l E zw _ _ _) (va_cwS 3 C.1.2.2.2.2 gX6_weigh_X6_in rfl rfl rfl (by decide +kernel) ⟨by decide, by decide⟩) rfl rfl (Nat.le_of_ble_eq_true rfl) dX6_weigh_30 ⟨Nat.le_of_ble_eq_true rfl, Nat.le_of_ble_eq_true rfl⟩ (fun r w1 hp => ?_)
      obtain ⟨rfl, rfl⟩ := hp
      refine v_if_ne (tgt := 39) C dX6_weigh_33 (by decide) (fun c33 => ?_) (fun c33 => ?_)
      · have c33 := b01_n c33
        simp only [t64, tl_0, tl_1000] at c33
        refine v_iload_n C dX6_weigh_39 rfl rfl ?_
        refine v_if_eq (tgt := 52) C dX6_weigh_40 (by decide) (fun c40 => ?_) (fun c40 => absurd c1 c40)
        refine v_aload_n C dX6_weigh_52 rfl rfl ?_
        refine vm_get (v := .ref (ad 22)) C hM inX6_weigh_X6 22 (by decide) kwX6_weigh_62 rfl rfl dX6_weigh_53 ?_
        refine v_iload_n C dX6_weigh_56 rfl rfl ?_
        refine vm_iald (f := ar 22) C hM 18 rfl (in_of (by omega) (by first | omega | (have := hI.ask.2; omega))) dX6_weigh_57 ?_
        refine v_istore C dX6_weigh_58 (by decide) rfl ?_
        refine v_iload_n C dX6_weigh_60 rfl rfl ?_
        refine v_if_eq (tgt := 74) C dX6_weigh_61 (by decide) (fun c61 => ?_) (fun c61 => absurd c1 c61)
        refine v_at (pc9 := 74) rfl ?_
        refine v_aload_n C dX6_weigh_74 rfl rfl ?_
        refine vm_get (v := .ref (ad 22)) C hM inX6_weigh_X6 22 (by decide) kwX6_weigh_62 rfl rfl dX6_weigh_75 ?_
        refine v_iload_n C dX6_weigh_78 rfl rfl ?_
        refine v_iload_n C dX6_weigh_79 rfl rfl ?_
        refine vm_iast C hM hF 22 18 rfl (in_of (by omega) (by first | omega | (have := hI.ask.2; omega))) rfl dX6_weigh_80 (fun zw hM hF => ?_)
        refine v_iload C dX6_weigh_81 rfl ?_
        exact v_iret C hr dX6_weigh_83 (Nat.le_refl _) (Nat.le_refl _) ⟨_, rfl, (by first | exact ⟨_, hM, hw0 ▸ hF, by rw [if_pos ⟨hW, c33⟩, if_pos c1], by rw [if_pos hW, if_pos c33, if_pos c1]⟩ | exact ⟨_, hM, hw0 ▸ hF, by rw [if_neg (fun h => hW h.1)], by rw [if_neg hW]⟩ | exact ⟨_, hM, hw0 ▸ hF, by rw [if_neg (fun h => c33 h.2)], by rw [if_pos hW, if_neg c33]⟩)⟩
      · have c33 := b01_0 c33
        simp only [t64, tl_0, tl_1000] at c33
        refine v_bipush (v := (-2)) C dX6_weigh_36 (by decide) ?_
        exact v_iret C hr dX6_weigh_38 (Nat.le_refl _) (Nat.le_refl _) ⟨_, rfl, (by first | exact ⟨_, hM, hw0 ▸ hF, by rw [if_pos ⟨hW, c33⟩, if_pos c1], by rw [if_pos hW, if_pos c33, if_pos c1]⟩ | exact ⟨_, hM, hw0 ▸ hF, by rw [if_neg (fun h => hW h.1)], by rw [if_neg hW]⟩ | exact ⟨_, hM, hw0 ▸ hF, by rw [if_neg (fun h => c33 h.2)], by rw [if_pos hW, if_neg c33]⟩)⟩
    · have c19 := b01_0 c19
      have hW : ¬ (if of = 0 then 0 ≤ x.toInt ∧ x.toInt ≤ 5 else 0 ≤ x.toInt ∧ x.toInt < na) := by rw [if_pos c1]; exact c19
      refine v_iconst (v := (-1)) C dX6_weigh_22 (by decide) ?_
      exact v_iret C hr dX6_weigh_23 (Nat.le_refl _) (Nat.le_refl _) ⟨_, rfl, (by first | exact ⟨_, hM, hw0 ▸ hF, by rw [if_pos ⟨hW, c33⟩, if_pos c1], by rw [if_pos hW, if_pos c33, if_pos c1]⟩ | exact ⟨_, hM, hw0 ▸ hF, by rw [if_neg (fun h => hW h.1)], by rw [if_neg hW]⟩ | exact ⟨_, hM, hw0 ▸ hF, by rw [if_neg (fun h => c33 h.2)], by rw [if_pos hW, if_neg c33]⟩)⟩
  · refine v_aload_n C dX6_weigh_4 rfl rfl ?_
    refine v_iload_n C dX6_weigh_5 rfl rfl ?_
    refine v_callVi C (c_X6_isAsking l E zw hM hI _) (cwV 1 C.1.2.2.2.2 gX6_weigh_X6_isAsking rfl rfl rfl (by decide +kernel) ⟨by decide, by decide⟩) 12 7 (hM 0 _ rfl) rfl rfl rfl (Nat.le_of_ble_eq_true rfl) dX6_weigh_6 ⟨Nat.le_of_ble_eq_true rfl, Nat.le_of_ble_eq_true rfl⟩ (fun r w1 hp => ?_)
    obtain ⟨rfl, rfl⟩ := hp
    refine v_if_ne (tgt := 24) C dX6_weigh_9 (by decide) (fun c9 => ?_) (fun c9 => ?_)
    · have c9 := b01_n c9
      have hW : (if of = 0 then 0 ≤ x.toInt ∧ x.toInt ≤ 5 else 0 ≤ x.toInt ∧ x.toInt < na) := by rw [if_neg c1]; exact c9
      refine v_iload_n C dX6_weigh_24 rfl rfl ?_
      refine v_i2l C dX6_weigh_25 rfl ?_
      refine v_lconst (v := 0) C dX6_weigh_26 (by decide) ?_
      refine v_ldc2 C kwX6_weigh_c165 dX6_weigh_27 ?_
      refine v_callSi C (c_X6_in l E zw _ _ _) (va_cwS 3 C.1.2.2.2.2 gX6_weigh_X6_in rfl rfl rfl (by decide +kernel) ⟨by decide, by decide⟩) rfl rfl (Nat.le_of_ble_eq_true rfl) dX6_weigh_30 ⟨Nat.le_of_ble_eq_true rfl, Nat.le_of_ble_eq_true rfl⟩ (fun r w1 hp => ?_)
      obtain ⟨rfl, rfl⟩ := hp
      refine v_if_ne (tgt := 39) C dX6_weigh_33 (by decide) (fun c33 => ?_) (fun c33 => ?_)
      · have c33 := b01_n c33
        simp only [t64, tl_0, tl_1000] at c33
        refine v_iload_n C dX6_weigh_39 rfl rfl ?_
        refine v_if_eq (tgt := 52) C dX6_weigh_40 (by decide) (fun c40 => absurd c40 c1) (fun c40 => ?_)
        refine v_aload_n C dX6_weigh_43 rfl rfl ?_
        refine vm_get (v := .ref (ad 21)) C hM inX6_weigh_X6 21 (by decide) kwX6_weigh_59 rfl rfl dX6_weigh_44 ?_
        refine v_iload_n C dX6_weigh_47 rfl rfl ?_
        refine vm_iald (f := ar 21) C hM 17 rfl (in_of (by omega) (by first | omega | (have := hI.ask.2; omega))) dX6_weigh_48 ?_
        refine v_goto (tgt := 58) C dX6_weigh_49 (by decide) ?_
        refine v_istore C dX6_weigh_58 (by decide) rfl ?_
        refine v_iload_n C dX6_weigh_60 rfl rfl ?_
        refine v_at (pc9 := 61) rfl ?_
        refine v_if_eq (tgt := 74) C dX6_weigh_61 (by decide) (fun c61 => absurd c61 c1) (fun c61 => ?_)
        refine v_aload_n C dX6_weigh_64 rfl rfl ?_
        refine vm_get (v := .ref (ad 21)) C hM inX6_weigh_X6 21 (by decide) kwX6_weigh_59 rfl rfl dX6_weigh_65 ?_
        refine v_iload_n C dX6_weigh_68 rfl rfl ?_
        refine v_iload_n C dX6_weigh_69 rfl rfl ?_
        refine vm_iast C hM hF 21 17 rfl (in_of (by omega) (by first | omega | (have := hI.ask.2; omega))) rfl dX6_weigh_70 (fun zw hM hF => ?_)
        refine v_goto (tgt := 81) C dX6_weigh_71 (by decide) ?_
        refine v_iload C dX6_weigh_81 rfl ?_
        exact v_iret C hr dX6_weigh_83 (Nat.le_refl _) (Nat.le_refl _) ⟨_, rfl, (by first | exact ⟨_, hM, hw0 ▸ hF, by rw [if_pos ⟨hW, c33⟩, if_neg c1], by rw [if_pos hW, if_pos c33, if_neg c1]⟩ | exact ⟨_, hM, hw0 ▸ hF, by rw [if_neg (fun h => hW h.1)], by rw [if_neg hW]⟩ | exact ⟨_, hM, hw0 ▸ hF, by rw [if_neg (fun h => c33 h.2)], by rw [if_pos hW, if_neg c33]⟩)⟩
      · have c33 := b01_0 c33
        simp only [t64, tl_0, tl_1000] at c33
        refine v_bipush (v := (-2)) C dX6_weigh_36 (by decide) ?_
        exact v_iret C hr dX6_weigh_38 (Nat.le_refl _) (Nat.le_refl _) ⟨_, rfl, (by first | exact ⟨_, hM, hw0 ▸ hF, by rw [if_pos ⟨hW, c33⟩, if_neg c1], by rw [if_pos hW, if_pos c33, if_neg c1]⟩ | exact ⟨_, hM, hw0 ▸ hF, by rw [if_neg (fun h => hW h.1)], by rw [if_neg hW]⟩ | exact ⟨_, hM, hw0 ▸ hF, by rw [if_neg (fun h => c33 h.2)], by rw [if_pos hW, if_neg c33]⟩)⟩
    · have c9 := b01_0 c9
      have hW : ¬ (if of = 0 then 0 ≤ x.toInt ∧ x.toInt ≤ 5 else 0 ≤ x.toInt ∧ x.toInt < na) := by rw [if_neg c1]; exact c9
      refine v_goto (tgt := 22) C dX6_weigh_12 (by decide) ?_
      refine v_iconst (v := (-1)) C dX6_weigh_22 (by decide) ?_
      exact v_iret C hr dX6_weigh_23 (Nat.le_refl _) (Nat.le_refl _) ⟨_, rfl, (by first | exact ⟨_, hM, hw0 ▸ hF, by rw [if_pos ⟨hW, c33⟩, if_neg c1], by rw [if_pos hW, if_pos c33, if_neg c1]⟩ | exact ⟨_, hM, hw0 ▸ hF, by rw [if_neg (fun h => hW h.1)], by rw [if_neg hW]⟩ | exact ⟨_, hM, hw0 ▸ hF, by rw [if_neg (fun h => c33 h.2)], by rw [if_pos hW, if_neg c33]⟩)⟩
theorem inX6_fold_X6 : ∀ x ∈ wsX60, x ∈ wsX6_fold := by decide +kernel
theorem kwX6_fold_13 : Cond.fieldLink RX6 13 "SeriesMarksModel" "chief" "[I" ∈ wsX6_fold := by decide +kernel
set_option maxHeartbeats 4000000 in
set_option maxRecDepth 100000 in
theorem lp_X6_fold {p : Program} {l : Launch} {e : Env} {R : Room} {s : State} {m : MethodId} {args : Array Value} {below : List Frame} {meth : Method} {c : Code} {cells slots : Nat} {Q : State → Prop} {E : gE} {w0 : va_W} (C : gC p s m args meth c E cX6_fold 9 wsX6_fold yX6_fold.cls) {ad : Nat → Nat} {g : Nat → Int32} {ar : Nat → Nat → Int32} {p1 p2 p3 X Y Z : Int32} {bs : Nat} (hbs : bs + 8 ≤ 9600) (hK : ∀ (zw : va_W) (G : Nat → Int32), mAt zw (mcl E ad g (va_up ar 2 G)) → mFr w0 zw → (∀ j, G j = if (bs ≤ j ∧ j < bs + 8) ∧ (ar 2 j = X ∨ ar 2 j = Y) then Z else ar 2 j) → V p l e R s m args below meth c E 9 zw cells slots Q 133 [(0, .ref (ad 0)), (1, .int p1), (2, .int p2), (3, .int p3), (4, .int (nI bs)), (5, .int X), (6, .int Y), (7, .int Z), (8, .int (nI 8))] []) : ∀ n i : Nat, i + n = 8 → ∀ (zw : va_W) (G : Nat → Int32), mAt zw (mcl E ad g (va_up ar 2 G)) → mFr w0 zw → (∀ j, G j = if (bs ≤ j ∧ j < bs + i) ∧ (ar 2 j = X ∨ ar 2 j = Y) then Z else ar 2 j) → V p l e R s m args below meth c E 9 zw cells slots Q 78 [(0, .ref (ad 0)), (1, .int p1), (2, .int p2), (3, .int p3), (4, .int (nI bs)), (5, .int X), (6, .int Y), (7, .int Z), (8, .int (nI i))] [] := by
  intro n
  induction n with
  | zero =>
    intro i hi zw G hM hF hG
    obtain rfl : i = 8 := by omega
    refine v_iload C dX6_fold_78 rfl ?_
    refine v_bipush (v := 8) C dX6_fold_80 (by decide) ?_
    refine v_icmp_ge (tgt := 133) C dX6_fold_82 (by decide) (fun c82 => ?_) (fun c82 => absurd (by rw [fa_le, ti_8, nI_toInt (by omega)]; omega) c82)
    exact hK zw G hM hF hG
  | succ n ih =>
    intro i hi zw G hM hF hG
    have hGi : G (bs + i) = ar 2 (bs + i) := by rw [hG, if_neg (fun h => by omega)]
    refine v_iload C dX6_fold_78 rfl ?_
    refine v_bipush (v := 8) C dX6_fold_80 (by decide) ?_
    refine v_icmp_ge (tgt := 133) C dX6_fold_82 (by decide) (fun c82 => absurd c82 (by rw [fa_le, ti_8, nI_toInt (by omega)]; omega)) (fun c82 => ?_)
    refine v_aload_n C dX6_fold_85 rfl rfl ?_
    refine vm_get (v := .ref (ad 2)) C hM inX6_fold_X6 2 (by decide) kwX6_fold_13 rfl rfl dX6_fold_86 ?_
    refine v_iload C dX6_fold_89 rfl ?_
    refine v_iload C dX6_fold_91 rfl ?_
    refine v_iadd C dX6_fold_93 ?_
    refine v_tov (nI_add _ _) ?_
    refine vm_iald (f := G) C hM 2 rfl (vp_in_nI (by omega) (by decide)) dX6_fold_94 ?_
    refine v_at (pc9 := 95) rfl ?_
    refine v_tov (y := ar 2 (bs + i)) (by rw [nI_clamp (by omega)]; exact hGi) ?_
    refine v_iload C dX6_fold_95 rfl ?_
    refine v_icmp_eq (tgt := 115) C dX6_fold_97 (by decide) (fun c97 => ?_) (fun c97 => ?_)
    · have hxy : ar 2 (bs + i) = X ∨ ar 2 (bs + i) = Y := Or.inl c97
      refine v_aload_n C dX6_fold_115 rfl rfl ?_
      refine vm_get (v := .ref (ad 2)) C hM inX6_fold_X6 2 (by decide) kwX6_fold_13 rfl rfl dX6_fold_116 ?_
      refine v_iload C dX6_fold_119 rfl ?_
      refine v_iload C dX6_fold_121 rfl ?_
      refine v_iadd C dX6_fold_123 ?_
      refine v_tov (nI_add _ _) ?_
      refine v_iload C dX6_fold_124 rfl ?_
      refine vm_iast C hM hF 2 2 rfl (vp_in_nI (by omega) (by decide)) rfl dX6_fold_126 (fun zw hM hF => ?_)
      rw [bx_uu, va_up_self, nI_clamp (show bs + i < 2 ^ 31 by omega)] at hM
      have hG1 : ∀ j, upd G (bs + i) Z j = if (bs ≤ j ∧ j < bs + (i + 1)) ∧ (ar 2 j = X ∨ ar 2 j = Y) then Z else ar 2 j := fun j => by
        by_cases e : j = bs + i
        · subst e; rw [pk_us, if_pos ⟨⟨by omega, by omega⟩, hxy⟩]
        · rw [pk_un e, hG j]
          by_cases q : (bs ≤ j ∧ j < bs + i) ∧ (ar 2 j = X ∨ ar 2 j = Y)
          · rw [if_pos q, if_pos ⟨⟨by omega, by omega⟩, q.2⟩]
          · rw [if_neg q, if_neg (fun h => q ⟨⟨by omega, by omega⟩, h.2⟩)]
      refine v_iincN C dX6_fold_127 rfl (by decide) rfl ?_
      refine v_goto (tgt := 78) C dX6_fold_130 (by decide) ?_
      exact ih (i + 1) (by omega) zw _ hM hF hG1
    · refine v_aload_n C dX6_fold_100 rfl rfl ?_
      refine vm_get (v := .ref (ad 2)) C hM inX6_fold_X6 2 (by decide) kwX6_fold_13 rfl rfl dX6_fold_101 ?_
      refine v_iload C dX6_fold_104 rfl ?_
      refine v_iload C dX6_fold_106 rfl ?_
      refine v_iadd C dX6_fold_108 ?_
      refine v_tov (nI_add _ _) ?_
      refine vm_iald (f := G) C hM 2 rfl (vp_in_nI (by omega) (by decide)) dX6_fold_109 ?_
      refine v_tov (y := ar 2 (bs + i)) (by rw [nI_clamp (by omega)]; exact hGi) ?_
      refine v_iload C dX6_fold_110 rfl ?_
      refine v_icmp_ne (tgt := 127) C dX6_fold_112 (by decide) (fun c112 => ?_) (fun c112 => ?_)
      · have hxy : ¬ (ar 2 (bs + i) = X ∨ ar 2 (bs + i) = Y) := fun h => h.elim c97 c112
        have hG1 : ∀ j, G j = if (bs ≤ j ∧ j < bs + (i + 1)) ∧ (ar 2 j = X ∨ ar 2 j = Y) then Z else ar 2 j := fun j => by
          rw [hG j]
          by_cases q : (bs ≤ j ∧ j < bs + i) ∧ (ar 2 j = X ∨ ar 2 j = Y)
          · rw [if_pos q, if_pos ⟨⟨by omega, by omega⟩, q.2⟩]
          · rw [if_neg q, if_neg (fun h => ?_)]
            by_cases e : j = bs + i
            · subst e; exact hxy h.2
            · exact q ⟨⟨by omega, by omega⟩, h.2⟩
        refine v_iincN C dX6_fold_127 rfl (by decide) rfl ?_
        refine v_goto (tgt := 78) C dX6_fold_130 (by decide) ?_
        exact ih (i + 1) (by omega) zw _ hM hF hG1
      · have hxy : ar 2 (bs + i) = X ∨ ar 2 (bs + i) = Y := Or.inr c112
        refine v_aload_n C dX6_fold_115 rfl rfl ?_
        refine vm_get (v := .ref (ad 2)) C hM inX6_fold_X6 2 (by decide) kwX6_fold_13 rfl rfl dX6_fold_116 ?_
        refine v_iload C dX6_fold_119 rfl ?_
        refine v_iload C dX6_fold_121 rfl ?_
        refine v_iadd C dX6_fold_123 ?_
        refine v_tov (nI_add _ _) ?_
        refine v_iload C dX6_fold_124 rfl ?_
        refine vm_iast C hM hF 2 2 rfl (vp_in_nI (by omega) (by decide)) rfl dX6_fold_126 (fun zw hM hF => ?_)
        rw [bx_uu, va_up_self, nI_clamp (show bs + i < 2 ^ 31 by omega)] at hM
        have hG1 : ∀ j, upd G (bs + i) Z j = if (bs ≤ j ∧ j < bs + (i + 1)) ∧ (ar 2 j = X ∨ ar 2 j = Y) then Z else ar 2 j := fun j => by
          by_cases e : j = bs + i
          · subst e; rw [pk_us, if_pos ⟨⟨by omega, by omega⟩, hxy⟩]
          · rw [pk_un e, hG j]
            by_cases q : (bs ≤ j ∧ j < bs + i) ∧ (ar 2 j = X ∨ ar 2 j = Y)
            · rw [if_pos q, if_pos ⟨⟨by omega, by omega⟩, q.2⟩]
            · rw [if_neg q, if_neg (fun h => q ⟨⟨by omega, by omega⟩, h.2⟩)]
        refine v_iincN C dX6_fold_127 rfl (by decide) rfl ?_
        refine v_goto (tgt := 78) C dX6_fold_130 (by decide) ?_
        exact ih (i + 1) (by omega) zw _ hM hF hG1
theorem kwX6_fold_65 : Cond.fieldLink RX6 65 "SeriesMarksModel" "tick" "I" ∈ wsX6_fold := by decide +kernel
set_option maxHeartbeats 4000000 in
set_option maxRecDepth 100000 in
theorem c_X6_fold (l : Launch) (E : gE) (zw : va_W) {ad : Nat → Nat} {g : Nat → Int32} {ar : Nat → Nat → Int32} (hM : mAt zw (mcl E ad g ar)) {tk ns np na : Nat} (hI : MI g ar tk ns np na) (mk a b : Int32) : CtI l yX6_fold wsX6_fold ({ frames := 2, cells := 0, slots := 0, locals := 45 }) E [.ref (ad 0), .int mk, .int a, .int b] zw (fun r w1 => ∃ G : Nat → Int32, mAt w1 (mcl E ad g (va_up ar 2 G)) ∧ mFr zw w1 ∧ ((((0 ≤ mk.toInt ∧ mk.toInt ≤ 5) ∧ (0 ≤ a.toInt ∧ a.toInt ≤ 7) ∧ 0 ≤ b.toInt ∧ b.toInt ≤ 7) ∧ (∀ j, G j = if ((48 * tk + 8 * mk.toNatClampNeg) ≤ j ∧ j < (48 * tk + 8 * mk.toNatClampNeg) + 8) ∧ (ar 2 j = (ar 2 ((48 * tk + 8 * mk.toNatClampNeg) + a.toNatClampNeg)) ∨ ar 2 j = (ar 2 ((48 * tk + 8 * mk.toNatClampNeg) + b.toNatClampNeg))) then (if (ar 2 ((48 * tk + 8 * mk.toNatClampNeg) + a.toNatClampNeg)) < (ar 2 ((48 * tk + 8 * mk.toNatClampNeg) + b.toNatClampNeg)) then (ar 2 ((48 * tk + 8 * mk.toNatClampNeg) + a.toNatClampNeg)) else (ar 2 ((48 * tk + 8 * mk.toNatClampNeg) + b.toNatClampNeg))) else ar 2 j) ∧ r = (if (ar 2 ((48 * tk + 8 * mk.toNatClampNeg) + a.toNatClampNeg)) < (ar 2 ((48 * tk + 8 * mk.toNatClampNeg) + b.toNatClampNeg)) then (ar 2 ((48 * tk + 8 * mk.toNatClampNeg) + a.toNatClampNeg)) else (ar 2 ((48 * tk + 8 * mk.toNatClampNeg) + b.toNatClampNeg)))) ∨ (¬ ((0 ≤ mk.toInt ∧ mk.toInt ≤ 5) ∧ (0 ≤ a.toInt ∧ a.toInt ≤ 7) ∧ 0 ≤ b.toInt ∧ b.toInt ≤ 7) ∧ G = ar 2 ∧ r = (-1)))) 0 0 := by
  refine Ct.of (cc := cX6_fold) (nL := 9) (ret := (some .int)) (by decide) rfl (Nat.le_of_ble_eq_true rfl) ?_
  intro p e s m args below meth c C hr hnm
  refine v_eqlv (lv9 := [(0, .ref (ad 0)), (1, .int mk), (2, .int a), (3, .int b)]) rfl ?_
  refine v_iload_n C dX6_fold_0 rfl rfl ?_
  refine v_callSi C (c_X6_isMark l E zw _) (va_cwS 1 C.1.2.2.2.2 gX6_fold_X6_isMark rfl rfl rfl (by decide +kernel) ⟨by decide, by decide⟩) rfl rfl (Nat.le_of_ble_eq_true rfl) dX6_fold_1 ⟨Nat.le_of_ble_eq_true rfl, Nat.le_of_ble_eq_true rfl⟩ (fun r w1 hp => ?_)
  obtain ⟨rfl, rfl⟩ := hp
  refine v_if_eq (tgt := 21) C dX6_fold_4 (by decide) (fun c4 => ?_) (fun c4 => ?_)
  · have c4 := b01_0 c4
    refine v_iconst (v := (-1)) C dX6_fold_21 (by decide) ?_
    exact v_iret C hr dX6_fold_22 (Nat.le_refl _) (Nat.le_refl _) ⟨_, rfl, (by first | exact ⟨G, hM, hF, Or.inl ⟨⟨c4, c11, c18⟩, by rw [nI_clamp (show mm < 2 ^ 31 by omega), nI_clamp (show aa < 2 ^ 31 by omega), nI_clamp (show bb < 2 ^ 31 by omega), ← hbs]; exact hG, by rw [nI_clamp (show mm < 2 ^ 31 by omega), nI_clamp (show aa < 2 ^ 31 by omega), nI_clamp (show bb < 2 ^ 31 by omega), ← hbs]⟩⟩ | exact ⟨ar 2, by rw [bx_k]; exact hM, mFr.rf _, Or.inr ⟨fun h => by first | exact c4 h.1 | exact c11 h.2.1 | exact c18 h.2.2, rfl, rfl⟩⟩)⟩
  · have c4 := b01_n c4
    refine v_iload_n C dX6_fold_7 rfl rfl ?_
    refine v_callSi C (c_X6_isValue l E zw _) (va_cwS 1 C.1.2.2.2.2 gX6_fold_X6_isValue rfl rfl rfl (by decide +kernel) ⟨by decide, by decide⟩) rfl rfl (Nat.le_of_ble_eq_true rfl) dX6_fold_8 ⟨Nat.le_of_ble_eq_true rfl, Nat.le_of_ble_eq_true rfl⟩ (fun r w1 hp => ?_)
    obtain ⟨rfl, rfl⟩ := hp
    refine v_if_eq (tgt := 21) C dX6_fold_11 (by decide) (fun c11 => ?_) (fun c11 => ?_)
    · have c11 := b01_0 c11
      refine v_iconst (v := (-1)) C dX6_fold_21 (by decide) ?_
      exact v_iret C hr dX6_fold_22 (Nat.le_refl _) (Nat.le_refl _) ⟨_, rfl, (by first | exact ⟨G, hM, hF, Or.inl ⟨⟨c4, c11, c18⟩, by rw [nI_clamp (show mm < 2 ^ 31 by omega), nI_clamp (show aa < 2 ^ 31 by omega), nI_clamp (show bb < 2 ^ 31 by omega), ← hbs]; exact hG, by rw [nI_clamp (show mm < 2 ^ 31 by omega), nI_clamp (show aa < 2 ^ 31 by omega), nI_clamp (show bb < 2 ^ 31 by omega), ← hbs]⟩⟩ | exact ⟨ar 2, by rw [bx_k]; exact hM, mFr.rf _, Or.inr ⟨fun h => by first | exact c4 h.1 | exact c11 h.2.1 | exact c18 h.2.2, rfl, rfl⟩⟩)⟩
    · have c11 := b01_n c11
      refine v_iload_n C dX6_fold_14 rfl rfl ?_
      refine v_callSi C (c_X6_isValue l E zw _) (va_cwS 1 C.1.2.2.2.2 gX6_fold_X6_isValue rfl rfl rfl (by decide +kernel) ⟨by decide, by decide⟩) rfl rfl (Nat.le_of_ble_eq_true rfl) dX6_fold_15 ⟨Nat.le_of_ble_eq_true rfl, Nat.le_of_ble_eq_true rfl⟩ (fun r w1 hp => ?_)
      obtain ⟨rfl, rfl⟩ := hp
      refine v_if_ne (tgt := 23) C dX6_fold_18 (by decide) (fun c18 => ?_) (fun c18 => ?_)
      · have c18 := b01_n c18
        have ht9 := hI.tick
        obtain ⟨mm, hmm, rfl⟩ : ∃ mm : Nat, mm ≤ 5 ∧ mk = nI mm := ⟨mk.toInt.toNat, by omega, nI_nat c4.1⟩
        obtain ⟨aa, haa, rfl⟩ : ∃ aa : Nat, aa ≤ 7 ∧ a = nI aa := ⟨a.toInt.toNat, by omega, nI_nat c11.1⟩
        obtain ⟨bb, hbb, rfl⟩ : ∃ bb : Nat, bb ≤ 7 ∧ b = nI bb := ⟨b.toInt.toNat, by omega, nI_nat c18.1⟩
        obtain ⟨bs, hbs⟩ : ∃ bs, bs = 48 * tk + 8 * mm := ⟨_, rfl⟩
        refine v_bipush (v := 48) C dX6_fold_23 (by decide) ?_
        refine v_aload_n C dX6_fold_25 rfl rfl ?_
        refine vm_get (v := .int (g 0)) C hM inX6_fold_X6 0 (by decide) kwX6_fold_65 rfl rfl dX6_fold_26 ?_
        refine v_imul C dX6_fold_29 ?_
        refine v_bipush (v := 8) C dX6_fold_30 (by decide) ?_
        refine v_iload_n C dX6_fold_32 rfl rfl ?_
        refine v_imul C dX6_fold_33 ?_
        refine v_iadd C dX6_fold_34 ?_
        refine v_tov (y := nI bs) (by rw [hI.1.1, show (48 : Int32) = nI 48 from rfl, show (8 : Int32) = nI 8 from rfl, pk_mul, pk_mul, nI_add, hbs]) ?_
        refine v_istore C dX6_fold_35 (by decide) rfl ?_
        refine v_at (pc9 := 37) rfl ?_
        refine v_aload_n C dX6_fold_37 rfl rfl ?_
        refine vm_get (v := .ref (ad 2)) C hM inX6_fold_X6 2 (by decide) kwX6_fold_13 rfl rfl dX6_fold_38 ?_
        refine v_iload C dX6_fold_41 rfl ?_
        refine v_iload_n C dX6_fold_43 rfl rfl ?_
        refine v_iadd C dX6_fold_44 ?_
        refine v_tov (nI_add _ _) ?_
        refine vm_iald (f := ar 2) C hM 2 rfl (vp_in_nI (by omega) (by decide)) dX6_fold_45 ?_
        refine v_tov (congrArg (ar 2) (nI_clamp (show bs + aa < 2 ^ 31 by omega))) ?_
        refine v_istore C dX6_fold_46 (by decide) rfl ?_
        refine v_aload_n C dX6_fold_48 rfl rfl ?_
        refine vm_get (v := .ref (ad 2)) C hM inX6_fold_X6 2 (by decide) kwX6_fold_13 rfl rfl dX6_fold_49 ?_
        refine v_iload C dX6_fold_52 rfl ?_
        refine v_at (pc9 := 54) rfl ?_
        refine v_iload_n C dX6_fold_54 rfl rfl ?_
        refine v_iadd C dX6_fold_55 ?_
        refine v_tov (nI_add _ _) ?_
        refine vm_iald (f := ar 2) C hM 2 rfl (vp_in_nI (by omega) (by decide)) dX6_fold_56 ?_
        refine v_tov (congrArg (ar 2) (nI_clamp (show bs + bb < 2 ^ 31 by omega))) ?_
        refine v_istore C dX6_fold_57 (by decide) rfl ?_
        refine v_iload C dX6_fold_59 rfl ?_
        refine v_iload C dX6_fold_61 rfl ?_
        refine v_icmp_ge (tgt := 71) C dX6_fold_63 (by decide) (fun c63 => ?_) (fun c63 => ?_)
        · refine v_iload C dX6_fold_71 rfl ?_
          refine v_tov (y := if ar 2 (bs + aa) < ar 2 (bs + bb) then ar 2 (bs + aa) else ar 2 (bs + bb)) (by first | (rw [if_neg (by rw [fa_lt]; rw [fa_le] at c63; omega)]; done) | (rw [if_pos (by rw [fa_lt]; rw [fa_le] at c63; omega)]; done)) ?_
          refine v_istore C dX6_fold_73 (by decide) rfl ?_
          refine v_iconst (v := 0) C dX6_fold_75 (by decide) ?_
          refine v_tov nI_0.symm ?_
          refine v_istore C dX6_fold_76 (by decide) rfl ?_
          refine lp_X6_fold (w0 := zw) C (bs := bs) (by omega) ?_ 8 0 rfl zw (ar 2) (by rw [bx_k]; exact hM) (mFr.rf zw) (fun j => by rw [if_neg (fun h => by omega)])
          intro zw G hM hF hG
          refine v_iload C dX6_fold_133 rfl ?_
          exact v_iret C hr dX6_fold_135 (Nat.le_refl _) (Nat.le_refl _) ⟨_, rfl, (by first | exact ⟨G, hM, hF, Or.inl ⟨⟨c4, c11, c18⟩, by rw [nI_clamp (show mm < 2 ^ 31 by omega), nI_clamp (show aa < 2 ^ 31 by omega), nI_clamp (show bb < 2 ^ 31 by omega), ← hbs]; exact hG, by rw [nI_clamp (show mm < 2 ^ 31 by omega), nI_clamp (show aa < 2 ^ 31 by omega), nI_clamp (show bb < 2 ^ 31 by omega), ← hbs]⟩⟩ | exact ⟨ar 2, by rw [bx_k]; exact hM, mFr.rf _, Or.inr ⟨fun h => by first | exact c4 h.1 | exact c11 h.2.1 | exact c18 h.2.2, rfl, rfl⟩⟩)⟩
        · refine v_iload C dX6_fold_66 rfl ?_
          refine v_goto (tgt := 73) C dX6_fold_68 (by decide) ?_
          refine v_tov (y := if ar 2 (bs + aa) < ar 2 (bs + bb) then ar 2 (bs + aa) else ar 2 (bs + bb)) (by first | (rw [if_neg (by rw [fa_lt]; rw [fa_le] at c63; omega)]; done) | (rw [if_pos (by rw [fa_lt]; rw [fa_le] at c63; omega)]; done)) ?_
          refine v_istore C dX6_fold_73 (by decide) rfl ?_
          refine v_iconst (v := 0) C dX6_fold_75 (by decide) ?_
          refine v_tov nI_0.symm ?_
          refine v_istore C dX6_fold_76 (by decide) rfl ?_
          refine lp_X6_fold (w0 := zw) C (bs := bs) (by omega) ?_ 8 0 rfl zw (ar 2) (by rw [bx_k]; exact hM) (mFr.rf zw) (fun j => by rw [if_neg (fun h => by omega)])
          intro zw G hM hF hG
          refine v_iload C dX6_fold_133 rfl ?_
          exact v_iret C hr dX6_fold_135 (Nat.le_refl _) (Nat.le_refl _) ⟨_, rfl, (by first | exact ⟨G, hM, hF, Or.inl ⟨⟨c4, c11, c18⟩, by rw [nI_clamp (show mm < 2 ^ 31 by omega), nI_clamp (show aa < 2 ^ 31 by omega), nI_clamp (show bb < 2 ^ 31 by omega), ← hbs]; exact hG, by rw [nI_clamp (show mm < 2 ^ 31 by omega), nI_clamp (show aa < 2 ^ 31 by omega), nI_clamp (show bb < 2 ^ 31 by omega), ← hbs]⟩⟩ | exact ⟨ar 2, by rw [bx_k]; exact hM, mFr.rf _, Or.inr ⟨fun h => by first | exact c4 h.1 | exact c11 h.2.1 | exact c18 h.2.2, rfl, rfl⟩⟩)⟩
      · have c18 := b01_0 c18
        refine v_iconst (v := (-1)) C dX6_fold_21 (by decide) ?_
        exact v_iret C hr dX6_fold_22 (Nat.le_refl _) (Nat.le_refl _) ⟨_, rfl, (by first | exact ⟨G, hM, hF, Or.inl ⟨⟨c4, c11, c18⟩, by rw [nI_clamp (show mm < 2 ^ 31 by omega), nI_clamp (show aa < 2 ^ 31 by omega), nI_clamp (show bb < 2 ^ 31 by omega), ← hbs]; exact hG, by rw [nI_clamp (show mm < 2 ^ 31 by omega), nI_clamp (show aa < 2 ^ 31 by omega), nI_clamp (show bb < 2 ^ 31 by omega), ← hbs]⟩⟩ | exact ⟨ar 2, by rw [bx_k]; exact hM, mFr.rf _, Or.inr ⟨fun h => by first | exact c4 h.1 | exact c11 h.2.1 | exact c18 h.2.2, rfl, rfl⟩⟩)⟩
theorem kwX6_ask_c129 : Cond.constantLong RX6 129 (63) ∈ wsX6_ask := by decide +kernel
theorem inX6_ask_X6 : ∀ x ∈ wsX60, x ∈ wsX6_ask := by decide +kernel
theorem kwX6_ask_140 : Cond.fieldLink RX6 140 "SeriesMarksModel" "askings" "I" ∈ wsX6_ask := by decide +kernel
theorem kwX6_ask_50 : Cond.fieldLink RX6 50 "SeriesMarksModel" "parts" "[I" ∈ wsX6_ask := by decide +kernel
theorem kwX6_ask_53 : Cond.fieldLink RX6 53 "SeriesMarksModel" "wantedMark" "[I" ∈ wsX6_ask := by decide +kernel
theorem kwX6_ask_56 : Cond.fieldLink RX6 56 "SeriesMarksModel" "wantedValue" "[I" ∈ wsX6_ask := by decide +kernel
theorem kwX6_ask_59 : Cond.fieldLink RX6 59 "SeriesMarksModel" "worth" "[I" ∈ wsX6_ask := by decide +kernel
set_option maxHeartbeats 4000000 in
set_option maxRecDepth 100000 in
theorem c_X6_ask (l : Launch) (E : gE) (zw : va_W) {ad : Nat → Nat} {g : Nat → Int32} {ar : Nat → Nat → Int32} (hM : mAt zw (mcl E ad g ar)) {tk ns np na : Nat} (hI : MI g ar tk ns np na) (mks mk v : Int32) : CtI l yX6_ask wsX6_ask ({ frames := 2, cells := 0, slots := 0, locals := 45 }) E [.ref (ad 0), .int mks, .int mk, .int v] zw (fun r w1 => ∃ (g1 : Nat → Int32) (ar1 : Nat → Nat → Int32), mAt w1 (mcl E ad g1 ar1) ∧ mFr zw w1 ∧ ((((0 ≤ mks.toInt ∧ mks.toInt ≤ 63) ∧ (mk = (-9) ∨ ((0 ≤ mk.toInt ∧ mk.toInt ≤ 5) ∧ 0 ≤ v.toInt ∧ v.toInt ≤ 7) ∧ ¬ (mks >>> (mk &&& 31)) &&& 1 = 0) ∧ na < 10) ∧ r = nI na ∧ g1 = upd g 17 (nI (na + 1)) ∧ ar1 = va_up (va_up (va_up (va_up ar 18 (upd (ar 18) na mks)) 19 (upd (ar 19) na mk)) 20 (upd (ar 20) na (if mk = (-9) then 0 else v))) 21 (upd (ar 21) na 0)) ∨ (¬ ((0 ≤ mks.toInt ∧ mks.toInt ≤ 63) ∧ (mk = (-9) ∨ ((0 ≤ mk.toInt ∧ mk.toInt ≤ 5) ∧ 0 ≤ v.toInt ∧ v.toInt ≤ 7) ∧ ¬ (mks >>> (mk &&& 31)) &&& 1 = 0) ∧ na < 10) ∧ g1 = g ∧ ar1 = ar ∧ r = (if 0 ≤ mks.toInt ∧ mks.toInt ≤ 63 then (if mk = (-9) ∨ ((0 ≤ mk.toInt ∧ mk.toInt ≤ 5) ∧ 0 ≤ v.toInt ∧ v.toInt ≤ 7) then (if mk = (-9) ∨ ¬ (mks >>> (mk &&& 31)) &&& 1 = 0 then (-4) else (-3)) else (-1)) else (-2))))) 0 0 := by
  refine Ct.of (cc := cX6_ask) (nL := 4) (ret := (some .int)) (by decide) rfl (Nat.le_of_ble_eq_true rfl) ?_
  intro p e s m args below meth c C hr hnm
  refine v_eqlv (lv9 := [(0, .ref (ad 0)), (1, .int mks), (2, .int mk), (3, .int v)]) rfl ?_
  obtain ⟨w0, hw0⟩ : ∃ w0 : va_W, w0 = zw := ⟨_, rfl⟩
  have hF : mFr w0 zw := by rw [hw0]; exact mFr.rf zw
  refine v_iload_n C dX6_ask_0 rfl rfl ?_
  refine v_i2l C dX6_ask_1 rfl ?_
  refine v_lconst (v := 0) C dX6_ask_2 (by decide) ?_
  refine v_ldc2 C kwX6_ask_c129 dX6_ask_3 ?_
  refine v_callSi C (c_X6_in l E zw _ _ _) (va_cwS 3 C.1.2.2.2.2 gX6_ask_X6_in rfl rfl rfl (by decide +kernel) ⟨by decide, by decide⟩) rfl rfl (Nat.le_of_ble_eq_true rfl) dX6_ask_6 ⟨Nat.le_of_ble_eq_true rfl, Nat.le_of_ble_eq_true rfl⟩ (fun r w1 hp => ?_)
  obtain ⟨rfl, rfl⟩ := hp
  refine v_if_ne (tgt := 15) C dX6_ask_9 (by decide) (fun c9 => ?_) (fun c9 => ?_)
  · have c9 := b01_n c9
    simp only [t64, tl_0, tl_63] at c9
    by_cases h9 : mk = (-9)
    · refine v_iload_n C dX6_ask_15 rfl rfl ?_
      refine v_bipush (v := (-9)) C dX6_ask_16 (by decide) ?_
      refine v_icmp_eq (tgt := 37) C dX6_ask_18 (by decide) (fun c18 => ?_) (fun c18 => absurd h9 c18)
      refine v_iload_n C dX6_ask_37 rfl rfl ?_
      refine v_bipush (v := (-9)) C dX6_ask_38 (by decide) ?_
      refine v_icmp_eq (tgt := 54) C dX6_ask_40 (by decide) (fun c40 => ?_) (fun c40 => absurd h9 c40)
      refine v_aload_n C dX6_ask_54 rfl rfl ?_
      refine vm_get (v := .int (g 17)) C hM inX6_ask_X6 17 (by decide) kwX6_ask_140 rfl rfl dX6_ask_55 ?_
      refine v_bipush (v := 10) C dX6_ask_58 (by decide) ?_
      refine v_at (pc9 := 60) rfl ?_
      refine v_icmp_ne (tgt := 66) C dX6_ask_60 (by decide) (fun c60 => ?_) (fun c60 => ?_)
      · have c60 : na < 10 := by
          have h8 := hI.ask.2
          rcases Nat.lt_or_ge na 10 with q | q
          · exact q
          · exact absurd (by rw [hI.2.2.2.1.1, show na = 10 by omega]; rfl) c60
        refine v_aload_n C dX6_ask_66 rfl rfl ?_
        refine vm_get (v := .ref (ad 18)) C hM inX6_ask_X6 18 (by decide) kwX6_ask_50 rfl rfl dX6_ask_67 ?_
        refine v_aload_n C dX6_ask_70 rfl rfl ?_
        refine vm_get (v := .int (g 17)) C hM inX6_ask_X6 17 (by decide) kwX6_ask_140 rfl rfl dX6_ask_71 ?_
        refine v_tov (y := nI na) hI.2.2.2.1.1 ?_
        refine v_iload_n C dX6_ask_74 rfl rfl ?_
        refine vm_iast C hM hF 18 14 rfl (vp_in_nI c60 (by decide)) rfl dX6_ask_75 (fun zw hM hF => ?_)
        rw [nI_clamp (show na < 2 ^ 31 by omega)] at hM
        refine v_aload_n C dX6_ask_76 rfl rfl ?_
        refine vm_get (v := .ref (ad 19)) C hM inX6_ask_X6 19 (by decide) kwX6_ask_53 rfl rfl dX6_ask_77 ?_
        refine v_aload_n C dX6_ask_80 rfl rfl ?_
        refine v_at (pc9 := 81) rfl ?_
        refine vm_get (v := .int (g 17)) C hM inX6_ask_X6 17 (by decide) kwX6_ask_140 rfl rfl dX6_ask_81 ?_
        refine v_tov (y := nI na) hI.2.2.2.1.1 ?_
        refine v_iload_n C dX6_ask_84 rfl rfl ?_
        refine vm_iast C hM hF 19 15 rfl (vp_in_nI c60 (by decide)) rfl dX6_ask_85 (fun zw hM hF => ?_)
        rw [nI_clamp (show na < 2 ^ 31 by omega)] at hM
        refine v_aload_n C dX6_ask_86 rfl rfl ?_
        refine vm_get (v := .ref (ad 20)) C hM inX6_ask_X6 20 (by decide) kwX6_ask_56 rfl rfl dX6_ask_87 ?_
        refine v_aload_n C dX6_ask_90 rfl rfl ?_
        refine vm_get (v := .int (g 17)) C hM inX6_ask_X6 17 (by decide) kwX6_ask_140 rfl rfl dX6_ask_91 ?_
        refine v_tov (y := nI na) hI.2.2.2.1.1 ?_
        refine v_iload_n C dX6_ask_94 rfl rfl ?_
        refine v_bipush (v := (-9)) C dX6_ask_95 (by decide) ?_
        refine v_icmp_ne (tgt := 104) C dX6_ask_97 (by decide) (fun c97 => absurd c97 (fun h => h h9)) (fun c97 => ?_)
        refine v_at (pc9 := 100) rfl ?_
        refine v_iconst (v := 0) C dX6_ask_100 (by decide) ?_
        refine v_goto (tgt := 105) C dX6_ask_101 (by decide) ?_
        refine vm_iast C hM hF 20 16 rfl (vp_in_nI c60 (by decide)) rfl dX6_ask_105 (fun zw hM hF => ?_)
        rw [nI_clamp (show na < 2 ^ 31 by omega)] at hM
        refine v_aload_n C dX6_ask_106 rfl rfl ?_
        refine vm_get (v := .ref (ad 21)) C hM inX6_ask_X6 21 (by decide) kwX6_ask_59 rfl rfl dX6_ask_107 ?_
        refine v_aload_n C dX6_ask_110 rfl rfl ?_
        refine vm_get (v := .int (g 17)) C hM inX6_ask_X6 17 (by decide) kwX6_ask_140 rfl rfl dX6_ask_111 ?_
        refine v_tov (y := nI na) hI.2.2.2.1.1 ?_
        refine v_iconst (v := 0) C dX6_ask_114 (by decide) ?_
        refine vm_iast C hM hF 21 17 rfl (vp_in_nI c60 (by decide)) rfl dX6_ask_115 (fun zw hM hF => ?_)
        rw [nI_clamp (show na < 2 ^ 31 by omega)] at hM
        refine v_aload_n C dX6_ask_116 rfl rfl ?_
        refine v_at (pc9 := 117) rfl ?_
        refine v_dup C dX6_ask_117 rfl ?_
        refine vm_get (v := .int (g 17)) C hM inX6_ask_X6 17 (by decide) kwX6_ask_140 rfl rfl dX6_ask_118 ?_
        refine v_iconst (v := 1) C dX6_ask_121 (by decide) ?_
        refine v_iadd C dX6_ask_122 ?_
        refine v_tov (y := nI (na + 1)) (by rw [hI.2.2.2.1.1]; exact nI_1 na) ?_
        refine vm_puti C hM hF inX6_ask_X6 17 (by decide) kwX6_ask_140 rfl rfl (by decide +kernel) rfl dX6_ask_123 (fun zw hM hF => ?_)
        refine v_aload_n C dX6_ask_126 rfl rfl ?_
        refine vm_get (v := .int (nI (na + 1))) C hM inX6_ask_X6 17 (by decide) kwX6_ask_140 rfl rfl dX6_ask_127 ?_
        refine v_iconst (v := 1) C dX6_ask_130 (by decide) ?_
        refine v_isub C dX6_ask_131 ?_
        rw [nI_pred]
        exact v_iret C hr dX6_ask_132 (Nat.le_refl _) (Nat.le_refl _) ⟨_, rfl, ⟨_, _, hM, hw0 ▸ hF, Or.inl ⟨⟨c9, Or.inl h9, c60⟩, rfl, rfl, by first | (rw [if_pos h9] <;> rfl) | (rw [if_neg h9] <;> rfl)⟩⟩⟩
      · have c60 : ¬ na < 10 := fun q => by
          have h8 := congrArg Int32.toInt c60
          rw [hI.ask.1, ti_10] at h8; omega
        refine v_bipush (v := (-4)) C dX6_ask_63 (by decide) ?_
        exact v_iret C hr dX6_ask_65 (Nat.le_refl _) (Nat.le_refl _) ⟨_, rfl, ⟨g, ar, hM, hw0 ▸ hF, Or.inr ⟨fun h => by first | exact c60 h.2.2 | exact h.2.1.elim h9 (fun q => q.2 c48) | exact h.2.1.elim h9 (fun q => c25 q.1.1) | exact h.2.1.elim h9 (fun q => c32 q.1.2), rfl, rfl, by
          rw [if_pos c9]
          first
          | (rw [if_pos (Or.inl h9), if_pos (Or.inl h9)]; done)
          | (rw [if_pos (Or.inr ⟨c25, c32⟩), if_neg (fun h => h.elim h9 (fun q => q c48))]; done)
          | (rw [if_neg (fun h => h.elim h9 (fun q => c25 q.1))]; done)
          | (rw [if_neg (fun h => h.elim h9 (fun q => c32 q.2))]; done)⟩⟩⟩
    · refine v_iload_n C dX6_ask_15 rfl rfl ?_
      refine v_bipush (v := (-9)) C dX6_ask_16 (by decide) ?_
      refine v_icmp_eq (tgt := 37) C dX6_ask_18 (by decide) (fun c18 => absurd c18 h9) (fun c18 => ?_)
      refine v_iload_n C dX6_ask_21 rfl rfl ?_
      refine v_callSi C (c_X6_isMark l E zw _) (va_cwS 1 C.1.2.2.2.2 gX6_ask_X6_isMark rfl rfl rfl (by decide +kernel) ⟨by decide, by decide⟩) rfl rfl (Nat.le_of_ble_eq_true rfl) dX6_ask_22 ⟨Nat.le_of_ble_eq_true rfl, Nat.le_of_ble_eq_true rfl⟩ (fun r w1 hp => ?_)
      obtain ⟨rfl, rfl⟩ := hp
      refine v_if_eq (tgt := 35) C dX6_ask_25 (by decide) (fun c25 => ?_) (fun c25 => ?_)
      · have c25 := b01_0 c25
        refine v_iconst (v := (-1)) C dX6_ask_35 (by decide) ?_
        exact v_iret C hr dX6_ask_36 (Nat.le_refl _) (Nat.le_refl _) ⟨_, rfl, ⟨g, ar, hM, hw0 ▸ hF, Or.inr ⟨fun h => by first | exact c60 h.2.2 | exact h.2.1.elim h9 (fun q => q.2 c48) | exact h.2.1.elim h9 (fun q => c25 q.1.1) | exact h.2.1.elim h9 (fun q => c32 q.1.2), rfl, rfl, by
          rw [if_pos c9]
          first
          | (rw [if_pos (Or.inr ⟨c25, c32⟩), if_pos (Or.inr c48)]; done)
          | (rw [if_pos (Or.inr ⟨c25, c32⟩), if_neg (fun h => h.elim h9 (fun q => q c48))]; done)
          | (rw [if_neg (fun h => h.elim h9 (fun q => c25 q.1))]; done)
          | (rw [if_neg (fun h => h.elim h9 (fun q => c32 q.2))]; done)⟩⟩⟩
      · have c25 := b01_n c25
        refine v_iload_n C dX6_ask_28 rfl rfl ?_
        refine v_callSi C (c_X6_isValue l E zw _) (va_cwS 1 C.1.2.2.2.2 gX6_ask_X6_isValue rfl rfl rfl (by decide +kernel) ⟨by decide, by decide⟩) rfl rfl (Nat.le_of_ble_eq_true rfl) dX6_ask_29 ⟨Nat.le_of_ble_eq_true rfl, Nat.le_of_ble_eq_true rfl⟩ (fun r w1 hp => ?_)
        obtain ⟨rfl, rfl⟩ := hp
        refine v_if_ne (tgt := 37) C dX6_ask_32 (by decide) (fun c32 => ?_) (fun c32 => ?_)
        · have c32 := b01_n c32
          refine v_iload_n C dX6_ask_37 rfl rfl ?_
          refine v_bipush (v := (-9)) C dX6_ask_38 (by decide) ?_
          refine v_icmp_eq (tgt := 54) C dX6_ask_40 (by decide) (fun c40 => absurd c40 h9) (fun c40 => ?_)
          refine v_iload_n C dX6_ask_43 rfl rfl ?_
          refine v_iload_n C dX6_ask_44 rfl rfl ?_
          refine v_ishr C dX6_ask_45 ?_
          refine v_iconst (v := 1) C dX6_ask_46 (by decide) ?_
          refine v_iand C dX6_ask_47 ?_
          refine v_if_ne (tgt := 54) C dX6_ask_48 (by decide) (fun c48 => ?_) (fun c48 => ?_)
          · refine v_aload_n C dX6_ask_54 rfl rfl ?_
            refine vm_get (v := .int (g 17)) C hM inX6_ask_X6 17 (by decide) kwX6_ask_140 rfl rfl dX6_ask_55 ?_
            refine v_bipush (v := 10) C dX6_ask_58 (by decide) ?_
            refine v_icmp_ne (tgt := 66) C dX6_ask_60 (by decide) (fun c60 => ?_) (fun c60 => ?_)
            · have c60 : na < 10 := by
                have h8 := hI.ask.2
                rcases Nat.lt_or_ge na 10 with q | q
                · exact q
                · exact absurd (by rw [hI.2.2.2.1.1, show na = 10 by omega]; rfl) c60
              refine v_aload_n C dX6_ask_66 rfl rfl ?_
              refine vm_get (v := .ref (ad 18)) C hM inX6_ask_X6 18 (by decide) kwX6_ask_50 rfl rfl dX6_ask_67 ?_
              refine v_aload_n C dX6_ask_70 rfl rfl ?_
              refine vm_get (v := .int (g 17)) C hM inX6_ask_X6 17 (by decide) kwX6_ask_140 rfl rfl dX6_ask_71 ?_
              refine v_tov (y := nI na) hI.2.2.2.1.1 ?_
              refine v_iload_n C dX6_ask_74 rfl rfl ?_
              refine vm_iast C hM hF 18 14 rfl (vp_in_nI c60 (by decide)) rfl dX6_ask_75 (fun zw hM hF => ?_)
              rw [nI_clamp (show na < 2 ^ 31 by omega)] at hM
              refine v_aload_n C dX6_ask_76 rfl rfl ?_
              refine vm_get (v := .ref (ad 19)) C hM inX6_ask_X6 19 (by decide) kwX6_ask_53 rfl rfl dX6_ask_77 ?_
              refine v_aload_n C dX6_ask_80 rfl rfl ?_
              refine v_at (pc9 := 81) rfl ?_
              refine vm_get (v := .int (g 17)) C hM inX6_ask_X6 17 (by decide) kwX6_ask_140 rfl rfl dX6_ask_81 ?_
              refine v_tov (y := nI na) hI.2.2.2.1.1 ?_
              refine v_iload_n C dX6_ask_84 rfl rfl ?_
              refine vm_iast C hM hF 19 15 rfl (vp_in_nI c60 (by decide)) rfl dX6_ask_85 (fun zw hM hF => ?_)
              rw [nI_clamp (show na < 2 ^ 31 by omega)] at hM
              refine v_aload_n C dX6_ask_86 rfl rfl ?_
              refine vm_get (v := .ref (ad 20)) C hM inX6_ask_X6 20 (by decide) kwX6_ask_56 rfl rfl dX6_ask_87 ?_
              refine v_aload_n C dX6_ask_90 rfl rfl ?_
              refine vm_get (v := .int (g 17)) C hM inX6_ask_X6 17 (by decide) kwX6_ask_140 rfl rfl dX6_ask_91 ?_
              refine v_tov (y := nI na) hI.2.2.2.1.1 ?_
              refine v_iload_n C dX6_ask_94 rfl rfl ?_
              refine v_bipush (v := (-9)) C dX6_ask_95 (by decide) ?_
              refine v_icmp_ne (tgt := 104) C dX6_ask_97 (by decide) (fun c97 => ?_) (fun c97 => absurd c97 h9)
              refine v_at (pc9 := 104) rfl ?_
              refine v_iload_n C dX6_ask_104 rfl rfl ?_
              refine vm_iast C hM hF 20 16 rfl (vp_in_nI c60 (by decide)) rfl dX6_ask_105 (fun zw hM hF => ?_)
              rw [nI_clamp (show na < 2 ^ 31 by omega)] at hM
              refine v_aload_n C dX6_ask_106 rfl rfl ?_
              refine vm_get (v := .ref (ad 21)) C hM inX6_ask_X6 21 (by decide) kwX6_ask_59 rfl rfl dX6_ask_107 ?_
              refine v_aload_n C dX6_ask_110 rfl rfl ?_
              refine vm_get (v := .int (g 17)) C hM inX6_ask_X6 17 (by decide) kwX6_ask_140 rfl rfl dX6_ask_111 ?_
              refine v_tov (y := nI na) hI.2.2.2.1.1 ?_
              refine v_iconst (v := 0) C dX6_ask_114 (by decide) ?_
              refine vm_iast C hM hF 21 17 rfl (vp_in_nI c60 (by decide)) rfl dX6_ask_115 (fun zw hM hF => ?_)
              rw [nI_clamp (show na < 2 ^ 31 by omega)] at hM
              refine v_aload_n C dX6_ask_116 rfl rfl ?_
              refine v_dup C dX6_ask_117 rfl ?_
              refine v_at (pc9 := 118) rfl ?_
              refine vm_get (v := .int (g 17)) C hM inX6_ask_X6 17 (by decide) kwX6_ask_140 rfl rfl dX6_ask_118 ?_
              refine v_iconst (v := 1) C dX6_ask_121 (by decide) ?_
              refine v_iadd C dX6_ask_122 ?_
              refine v_tov (y := nI (na + 1)) (by rw [hI.2.2.2.1.1]; exact nI_1 na) ?_
              refine vm_puti C hM hF inX6_ask_X6 17 (by decide) kwX6_ask_140 rfl rfl (by decide +kernel) rfl dX6_ask_123 (fun zw hM hF => ?_)
              refine v_aload_n C dX6_ask_126 rfl rfl ?_
              refine vm_get (v := .int (nI (na + 1))) C hM inX6_ask_X6 17 (by decide) kwX6_ask_140 rfl rfl dX6_ask_127 ?_
              refine v_iconst (v := 1) C dX6_ask_130 (by decide) ?_
              refine v_isub C dX6_ask_131 ?_
              rw [nI_pred]
              exact v_iret C hr dX6_ask_132 (Nat.le_refl _) (Nat.le_refl _) ⟨_, rfl, ⟨_, _, hM, hw0 ▸ hF, Or.inl ⟨⟨c9, Or.inr ⟨⟨c25, c32⟩, c48⟩, c60⟩, rfl, rfl, by first | (rw [if_pos h9] <;> rfl) | (rw [if_neg h9] <;> rfl)⟩⟩⟩
            · have c60 : ¬ na < 10 := fun q => by
                have h8 := congrArg Int32.toInt c60
                rw [hI.ask.1, ti_10] at h8; omega
              refine v_bipush (v := (-4)) C dX6_ask_63 (by decide) ?_
              exact v_iret C hr dX6_ask_65 (Nat.le_refl _) (Nat.le_refl _) ⟨_, rfl, ⟨g, ar, hM, hw0 ▸ hF, Or.inr ⟨fun h => by first | exact c60 h.2.2 | exact h.2.1.elim h9 (fun q => q.2 c48) | exact h.2.1.elim h9 (fun q => c25 q.1.1) | exact h.2.1.elim h9 (fun q => c32 q.1.2), rfl, rfl, by
                rw [if_pos c9]
                first
                | (rw [if_pos (Or.inr ⟨c25, c32⟩), if_pos (Or.inr c48)]; done)
                | (rw [if_pos (Or.inr ⟨c25, c32⟩), if_neg (fun h => h.elim h9 (fun q => q c48))]; done)
                | (rw [if_neg (fun h => h.elim h9 (fun q => c25 q.1))]; done)
                | (rw [if_neg (fun h => h.elim h9 (fun q => c32 q.2))]; done)⟩⟩⟩
          · refine v_bipush (v := (-3)) C dX6_ask_51 (by decide) ?_
            exact v_iret C hr dX6_ask_53 (Nat.le_refl _) (Nat.le_refl _) ⟨_, rfl, ⟨g, ar, hM, hw0 ▸ hF, Or.inr ⟨fun h => by first | exact c60 h.2.2 | exact h.2.1.elim h9 (fun q => q.2 c48) | exact h.2.1.elim h9 (fun q => c25 q.1.1) | exact h.2.1.elim h9 (fun q => c32 q.1.2), rfl, rfl, by
              rw [if_pos c9]
              first
              | (rw [if_pos (Or.inr ⟨c25, c32⟩), if_pos (Or.inr c48)]; done)
              | (rw [if_pos (Or.inr ⟨c25, c32⟩), if_neg (fun h => h.elim h9 (fun q => q c48))]; done)
              | (rw [if_neg (fun h => h.elim h9 (fun q => c25 q.1))]; done)
              | (rw [if_neg (fun h => h.elim h9 (fun q => c32 q.2))]; done)⟩⟩⟩
        · have c32 := b01_0 c32
          refine v_iconst (v := (-1)) C dX6_ask_35 (by decide) ?_
          exact v_iret C hr dX6_ask_36 (Nat.le_refl _) (Nat.le_refl _) ⟨_, rfl, ⟨g, ar, hM, hw0 ▸ hF, Or.inr ⟨fun h => by first | exact c60 h.2.2 | exact h.2.1.elim h9 (fun q => q.2 c48) | exact h.2.1.elim h9 (fun q => c25 q.1.1) | exact h.2.1.elim h9 (fun q => c32 q.1.2), rfl, rfl, by
            rw [if_pos c9]
            first
            | (rw [if_pos (Or.inr ⟨c25, c32⟩), if_pos (Or.inr c48)]; done)
            | (rw [if_pos (Or.inr ⟨c25, c32⟩), if_neg (fun h => h.elim h9 (fun q => q c48))]; done)
            | (rw [if_neg (fun h => h.elim h9 (fun q => c25 q.1))]; done)
            | (rw [if_neg (fun h => h.elim h9 (fun q => c32 q.2))]; done)⟩⟩⟩
  · have c9 := b01_0 c9
    simp only [t64, tl_0, tl_63] at c9
    refine v_bipush (v := (-2)) C dX6_ask_12 (by decide) ?_
    exact v_iret C hr dX6_ask_14 (Nat.le_refl _) (Nat.le_refl _) ⟨_, rfl, ⟨g, ar, hM, hw0 ▸ hF, Or.inr ⟨fun h => c9 h.1, rfl, rfl, by rw [if_neg c9]⟩⟩⟩
