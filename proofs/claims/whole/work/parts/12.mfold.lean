theorem ix6 (tt m : Nat) : 6 * nI tt + nI m = nI (6 * tt + m) := by rw [show (6 : Int32) = nI 6 from rfl, pk_mul, nI_add]
theorem ix48 (tt m v : Nat) : 48 * nI tt + 8 * nI m + nI v = nI (48 * tt + 8 * m + v) := by rw [show (48 : Int32) = nI 48 from rfl, show (8 : Int32) = nI 8 from rfl, pk_mul, pk_mul, nI_add, nI_add]
theorem dgt_lt (x mk : Int32) : ∃ v, v < 8 ∧ dgt x mk = nI v := pk_andE _ 3 (by decide)
/-- a name as it is short at a tick, mark by mark -/
def shI (ar : Nat → Nat → Int32) (x : Int32) (tt : Nat) : Nat → Int32
  | 0 => 0
  | m + 1 => shI ar x tt m ||| ((if ar 1 (6 * tt + m) = 0 then ar 2 (48 * tt + 8 * m + (dgt x (nI m)).toNatClampNeg) else 0) <<< ((3 * nI m) &&& 31))
theorem inX6_shorted_X6 : ∀ x ∈ wsX60, x ∈ wsX6_shorted := by decide +kernel
theorem kwX6_shorted_7 : Cond.fieldLink RX6 7 "SeriesMarksModel" "dropped" "[Z" ∈ wsX6_shorted := by decide +kernel
theorem kwX6_shorted_13 : Cond.fieldLink RX6 13 "SeriesMarksModel" "chief" "[I" ∈ wsX6_shorted := by decide +kernel
set_option maxHeartbeats 4000000 in
set_option maxRecDepth 100000 in
theorem lp_X6_shorted {p : Program} {l : Launch} {e : Env} {s : State} {m : MethodId} {args : Array Value} {below : List Frame} {meth : Method} {c : Code} {Q : State → Prop} {E : gE} {zw : va_W} (C : gC p s m args meth c E cX6_shorted 6 wsX6_shorted yX6_shorted.cls) {ad : Nat → Nat} {g : Nat → Int32} {ar : Nat → Nat → Int32} (hM : mAt zw (mcl E ad g ar)) {tk ns np na : Nat} (hI : MI g ar tk ns np na) {x : Int32} {tt : Nat} (htt : tt ≤ 199) (hK : V p l e ({ frames := 1, cells := 0, slots := 0, locals := 21 }) s m args below meth c E 6 zw 0 0 Q 71 [(0, .ref (ad 0)), (1, .int x), (2, .int (nI tt)), (3, .int (shI ar x tt 6)), (4, .int (nI 6))] []) : ∀ n i : Nat, i + n = 6 → V p l e ({ frames := 1, cells := 0, slots := 0, locals := 21 }) s m args below meth c E 6 zw 0 0 Q 5 [(0, .ref (ad 0)), (1, .int x), (2, .int (nI tt)), (3, .int (shI ar x tt i)), (4, .int (nI i))] [] := by
  intro n
  induction n with
  | zero =>
    intro i hi
    obtain rfl : i = 6 := by omega
    refine v_iload C dX6_shorted_5 rfl ?_
    refine v_bipush (v := 6) C dX6_shorted_7 (by decide) ?_
    refine v_icmp_ge (tgt := 71) C dX6_shorted_9 (by decide) (fun c9 => ?_) (fun c9 => absurd (by rw [fa_le, ti_6, nI_toInt (by omega)]; omega) c9)
    exact hK
  | succ n ih =>
    intro i hi
    refine v_iload C dX6_shorted_5 rfl ?_
    refine v_bipush (v := 6) C dX6_shorted_7 (by decide) ?_
    refine v_icmp_ge (tgt := 71) C dX6_shorted_9 (by decide) (fun c9 => absurd c9 (by rw [fa_le, ti_6, nI_toInt (by omega)]; omega)) (fun c9 => ?_)
    refine v_aload_n C dX6_shorted_12 rfl rfl ?_
    refine vm_get (v := .ref (ad 1)) C hM inX6_shorted_X6 1 (by decide) kwX6_shorted_7 rfl rfl dX6_shorted_13 ?_
    refine v_bipush (v := 6) C dX6_shorted_16 (by decide) ?_
    refine v_iload_n C dX6_shorted_18 rfl rfl ?_
    refine v_imul C dX6_shorted_19 ?_
    refine v_iload C dX6_shorted_20 rfl ?_
    refine v_at (pc9 := 22) rfl ?_
    refine v_iadd C dX6_shorted_22 ?_
    rw [ix6]
    refine vm_zald (f := ar 1) C hM 1 rfl (vp_in_nI (by omega) (by decide)) dX6_shorted_23 ?_
    rw [nI_clamp (by omega)]
    refine v_if_eq (tgt := 31) C dX6_shorted_24 (by decide) (fun c24 => ?_) (fun c24 => ?_)
    · refine v_aload_n C dX6_shorted_31 rfl rfl ?_
      refine vm_get (v := .ref (ad 2)) C hM inX6_shorted_X6 2 (by decide) kwX6_shorted_13 rfl rfl dX6_shorted_32 ?_
      refine v_bipush (v := 48) C dX6_shorted_35 (by decide) ?_
      refine v_iload_n C dX6_shorted_37 rfl rfl ?_
      refine v_imul C dX6_shorted_38 ?_
      refine v_bipush (v := 8) C dX6_shorted_39 (by decide) ?_
      refine v_iload C dX6_shorted_41 rfl ?_
      refine v_imul C dX6_shorted_43 ?_
      refine v_iadd C dX6_shorted_44 ?_
      refine v_at (pc9 := 45) rfl ?_
      refine v_iload_n C dX6_shorted_45 rfl rfl ?_
      refine v_iload C dX6_shorted_46 rfl ?_
      refine v_callSi C (c_X6_digit l E zw _ _) (va_cwS 2 C.1.2.2.2.2 gX6_shorted_X6_digit rfl rfl rfl (by decide +kernel) ⟨by decide, by decide⟩) rfl rfl (Nat.le_of_ble_eq_true rfl) dX6_shorted_48 ⟨Nat.le_of_ble_eq_true rfl, Nat.le_of_ble_eq_true rfl⟩ (fun r w1 hp => ?_)
      obtain ⟨rfl, hr9⟩ := hp
      rw [hr9]
      clear hr9
      obtain ⟨v9, hv9, e9⟩ := dgt_lt x (nI i)
      rw [e9]
      refine v_iadd C dX6_shorted_51 ?_
      rw [ix48]
      refine vm_iald (f := ar 2) C hM 2 rfl (vp_in_nI (by omega) (by decide)) dX6_shorted_52 ?_
      refine v_tov (y := if ar 1 (6 * tt + i) = 0 then ar 2 (48 * tt + 8 * i + (dgt x (nI i)).toNatClampNeg) else 0) (by first | (rw [if_neg c24]; done) | (rw [if_pos c24, e9, nI_clamp (by omega), nI_clamp (by omega)]; done)) ?_
      refine v_istore C dX6_shorted_53 (by decide) rfl ?_
      refine v_iload_n C dX6_shorted_55 rfl rfl ?_
      refine v_iload C dX6_shorted_56 rfl ?_
      refine v_iconst (v := 3) C dX6_shorted_58 (by decide) ?_
      refine v_iload C dX6_shorted_59 rfl ?_
      refine v_at (pc9 := 61) rfl ?_
      refine v_imul C dX6_shorted_61 ?_
      refine v_ishl C dX6_shorted_62 ?_
      refine v_ior C dX6_shorted_63 ?_
      refine v_istore_n C dX6_shorted_64 rfl (by decide) rfl ?_
      refine v_iincN C dX6_shorted_65 rfl (by decide) rfl ?_
      refine v_goto (tgt := 5) C dX6_shorted_68 (by decide) ?_
      refine v_pick (lv9 := [(0, .ref (ad 0)), (1, .int x), (2, .int (nI tt)), (3, .int (shI ar x tt (i + 1))), (4, .int (nI (i + 1)))]) ⟨rfl, rfl, rfl, rfl, rfl, trivial⟩ ?_
      exact ih (i + 1) (by omega)
    · refine v_iconst (v := 0) C dX6_shorted_27 (by decide) ?_
      refine v_goto (tgt := 53) C dX6_shorted_28 (by decide) ?_
      refine v_tov (y := if ar 1 (6 * tt + i) = 0 then ar 2 (48 * tt + 8 * i + (dgt x (nI i)).toNatClampNeg) else 0) (by first | (rw [if_neg c24]; done) | (rw [if_pos c24, e9, nI_clamp (by omega), nI_clamp (by omega)]; done)) ?_
      refine v_istore C dX6_shorted_53 (by decide) rfl ?_
      refine v_iload_n C dX6_shorted_55 rfl rfl ?_
      refine v_iload C dX6_shorted_56 rfl ?_
      refine v_iconst (v := 3) C dX6_shorted_58 (by decide) ?_
      refine v_iload C dX6_shorted_59 rfl ?_
      refine v_imul C dX6_shorted_61 ?_
      refine v_ishl C dX6_shorted_62 ?_
      refine v_at (pc9 := 63) rfl ?_
      refine v_ior C dX6_shorted_63 ?_
      refine v_istore_n C dX6_shorted_64 rfl (by decide) rfl ?_
      refine v_iincN C dX6_shorted_65 rfl (by decide) rfl ?_
      refine v_goto (tgt := 5) C dX6_shorted_68 (by decide) ?_
      refine v_pick (lv9 := [(0, .ref (ad 0)), (1, .int x), (2, .int (nI tt)), (3, .int (shI ar x tt (i + 1))), (4, .int (nI (i + 1)))]) ⟨rfl, rfl, rfl, rfl, rfl, trivial⟩ ?_
      exact ih (i + 1) (by omega)
set_option maxHeartbeats 4000000 in
set_option maxRecDepth 100000 in
theorem c_X6_shorted (l : Launch) (E : gE) (zw : va_W) {ad : Nat → Nat} {g : Nat → Int32} {ar : Nat → Nat → Int32} (hM : mAt zw (mcl E ad g ar)) {tk ns np na : Nat} (hI : MI g ar tk ns np na) (x : Int32) {tt : Nat} (htt : tt ≤ 199) : CtI l yX6_shorted wsX6_shorted ({ frames := 1, cells := 0, slots := 0, locals := 21 }) E [.ref (ad 0), .int x, .int (nI tt)] zw (fun r w1 => zw = w1 ∧ r = shI ar x tt 6) 0 0 := by
  refine Ct.of (cc := cX6_shorted) (nL := 6) (ret := (some .int)) (by decide) rfl (Nat.le_of_ble_eq_true rfl) ?_
  intro p e s m args below meth c C hr hnm
  refine v_eqlv (lv9 := [(0, .ref (ad 0)), (1, .int x), (2, .int (nI tt))]) rfl ?_
  refine v_iconst (v := 0) C dX6_shorted_0 (by decide) ?_
  refine v_istore_n C dX6_shorted_1 rfl (by decide) rfl ?_
  refine v_iconst (v := 0) C dX6_shorted_2 (by decide) ?_
  refine v_tov nI_0.symm ?_
  refine v_istore C dX6_shorted_3 (by decide) rfl ?_
  refine lp_X6_shorted C hM hI htt ?_ 6 0 rfl
  refine v_iload_n C dX6_shorted_71 rfl rfl ?_
  exact v_iret C hr dX6_shorted_72 (Nat.le_refl _) (Nat.le_refl _) ⟨_, rfl, ⟨rfl, rfl⟩⟩
theorem inX6_shortAt_X6 : ∀ x ∈ wsX60, x ∈ wsX6_shortAt := by decide +kernel
theorem kwX6_shortAt_65 : Cond.fieldLink RX6 65 "SeriesMarksModel" "tick" "I" ∈ wsX6_shortAt := by decide +kernel
set_option maxHeartbeats 4000000 in
set_option maxRecDepth 100000 in
theorem c_X6_shortAt (l : Launch) (E : gE) (zw : va_W) {ad : Nat → Nat} {g : Nat → Int32} {ar : Nat → Nat → Int32} (hM : mAt zw (mcl E ad g ar)) {tk ns np na : Nat} (hI : MI g ar tk ns np na) (x t : Int32) : CtI l yX6_shortAt wsX6_shortAt ({ frames := 2, cells := 0, slots := 0, locals := 46 }) E [.ref (ad 0), .int x, .int t] zw (fun r w1 => zw = w1 ∧ r = if (0 ≤ x.toInt ∧ x.toInt ≤ 262143) ∧ 0 ≤ t.toInt ∧ t.toInt ≤ (g 0).toInt then shI ar x t.toNatClampNeg 6 else (-2)) 0 0 := by
  refine Ct.of (cc := cX6_shortAt) (nL := 3) (ret := (some .int)) (by decide) rfl (Nat.le_of_ble_eq_true rfl) ?_
  intro p e s m args below meth c C hr hnm
  refine v_eqlv (lv9 := [(0, .ref (ad 0)), (1, .int x), (2, .int t)]) rfl ?_
  refine v_iload_n C dX6_shortAt_0 rfl rfl ?_
  refine v_callSi C (c_X6_isName l E zw _) (va_cwS 1 C.1.2.2.2.2 gX6_shortAt_X6_isName rfl rfl rfl (by decide +kernel) ⟨by decide, by decide⟩) rfl rfl (Nat.le_of_ble_eq_true rfl) dX6_shortAt_1 ⟨Nat.le_of_ble_eq_true rfl, Nat.le_of_ble_eq_true rfl⟩ (fun r w1 hp => ?_)
  obtain ⟨rfl, rfl⟩ := hp
  refine v_if_eq (tgt := 30) C dX6_shortAt_4 (by decide) (fun c4 => ?_) (fun c4 => ?_)
  · have c4 := b01_0 c4
    refine v_bipush (v := (-2)) C dX6_shortAt_30 (by decide) ?_
    exact v_iret C hr dX6_shortAt_32 (Nat.le_refl _) (Nat.le_refl _) ⟨_, rfl, ⟨rfl, by first | (rw [if_pos ⟨c4, c18⟩, nI_clamp (by omega)]; done) | (rw [if_neg (fun h => c4 h.1)]; done) | (rw [if_neg (fun h => c18 h.2)]; done)⟩⟩
  · have c4 := b01_n c4
    refine v_iload_n C dX6_shortAt_7 rfl rfl ?_
    refine v_i2l C dX6_shortAt_8 rfl ?_
    refine v_lconst (v := 0) C dX6_shortAt_9 (by decide) ?_
    refine v_aload_n C dX6_shortAt_10 rfl rfl ?_
    refine vm_get (v := .int (g 0)) C hM inX6_shortAt_X6 0 (by decide) kwX6_shortAt_65 rfl rfl dX6_shortAt_11 ?_
    refine v_i2l C dX6_shortAt_14 rfl ?_
    refine v_callSi C (c_X6_in l E zw _ _ _) (va_cwS 3 C.1.2.2.2.2 gX6_shortAt_X6_in rfl rfl rfl (by decide +kernel) ⟨by decide, by decide⟩) rfl rfl (Nat.le_of_ble_eq_true rfl) dX6_shortAt_15 ⟨Nat.le_of_ble_eq_true rfl, Nat.le_of_ble_eq_true rfl⟩ (fun r w1 hp => ?_)
    obtain ⟨rfl, rfl⟩ := hp
    refine v_if_eq (tgt := 30) C dX6_shortAt_18 (by decide) (fun c18 => ?_) (fun c18 => ?_)
    · have c18 := b01_0 c18
      simp only [t64, tl_0] at c18
      refine v_bipush (v := (-2)) C dX6_shortAt_30 (by decide) ?_
      exact v_iret C hr dX6_shortAt_32 (Nat.le_refl _) (Nat.le_refl _) ⟨_, rfl, ⟨rfl, by first | (rw [if_pos ⟨c4, c18⟩, nI_clamp (by omega)]; done) | (rw [if_neg (fun h => c4 h.1)]; done) | (rw [if_neg (fun h => c18 h.2)]; done)⟩⟩
    · have c18 := b01_n c18
      simp only [t64, tl_0] at c18
      have ht9 := hI.tick
      obtain ⟨tt, htt, rfl⟩ : ∃ tt : Nat, tt ≤ 199 ∧ t = nI tt := ⟨t.toInt.toNat, by omega, nI_nat c18.1⟩
      refine v_aload_n C dX6_shortAt_21 rfl rfl ?_
      refine v_iload_n C dX6_shortAt_22 rfl rfl ?_
      refine v_iload_n C dX6_shortAt_23 rfl rfl ?_
      refine v_callVi C (c_X6_shorted l E zw hM hI _ htt) (cwV 2 C.1.2.2.2.2 gX6_shortAt_X6_shorted rfl rfl rfl (by decide +kernel) ⟨by decide, by decide⟩) 12 7 (hM 0 _ rfl) rfl rfl rfl (Nat.le_of_ble_eq_true rfl) dX6_shortAt_24 ⟨Nat.le_of_ble_eq_true rfl, Nat.le_of_ble_eq_true rfl⟩ (fun r w1 hp => ?_)
      obtain ⟨rfl, rfl⟩ := hp
      refine v_goto (tgt := 32) C dX6_shortAt_27 (by decide) ?_
      exact v_iret C hr dX6_shortAt_32 (Nat.le_refl _) (Nat.le_refl _) ⟨_, rfl, ⟨rfl, by first | (rw [if_pos ⟨c4, c18⟩, nI_clamp (by omega)]; done) | (rw [if_neg (fun h => c4 h.1)]; done) | (rw [if_neg (fun h => c18 h.2)]; done)⟩⟩
theorem inX6_dropped_X6 : ∀ x ∈ wsX60, x ∈ wsX6_dropped := by decide +kernel
theorem kwX6_dropped_65 : Cond.fieldLink RX6 65 "SeriesMarksModel" "tick" "I" ∈ wsX6_dropped := by decide +kernel
theorem kwX6_dropped_7 : Cond.fieldLink RX6 7 "SeriesMarksModel" "dropped" "[Z" ∈ wsX6_dropped := by decide +kernel
set_option maxHeartbeats 4000000 in
set_option maxRecDepth 100000 in
theorem c_X6_dropped (l : Launch) (E : gE) (zw : va_W) {ad : Nat → Nat} {g : Nat → Int32} {ar : Nat → Nat → Int32} (hM : mAt zw (mcl E ad g ar)) {tk ns np na : Nat} (hI : MI g ar tk ns np na) (mk t : Int32) : CtI l yX6_dropped wsX6_dropped ({ frames := 2, cells := 0, slots := 0, locals := 45 }) E [.ref (ad 0), .int mk, .int t] zw (fun r w1 => zw = w1 ∧ r = if 0 ≤ mk.toInt ∧ mk.toInt ≤ 5 then (if 0 ≤ t.toInt ∧ t.toInt ≤ (g 0).toInt then ar 1 (6 * t.toNatClampNeg + mk.toNatClampNeg) else (-2)) else (-1)) 0 0 := by
  refine Ct.of (cc := cX6_dropped) (nL := 3) (ret := (some .int)) (by decide) rfl (Nat.le_of_ble_eq_true rfl) ?_
  intro p e s m args below meth c C hr hnm
  refine v_eqlv (lv9 := [(0, .ref (ad 0)), (1, .int mk), (2, .int t)]) rfl ?_
  refine v_iload_n C dX6_dropped_0 rfl rfl ?_
  refine v_callSi C (c_X6_isMark l E zw _) (va_cwS 1 C.1.2.2.2.2 gX6_dropped_X6_isMark rfl rfl rfl (by decide +kernel) ⟨by decide, by decide⟩) rfl rfl (Nat.le_of_ble_eq_true rfl) dX6_dropped_1 ⟨Nat.le_of_ble_eq_true rfl, Nat.le_of_ble_eq_true rfl⟩ (fun r w1 hp => ?_)
  obtain ⟨rfl, rfl⟩ := hp
  refine v_if_ne (tgt := 9) C dX6_dropped_4 (by decide) (fun c4 => ?_) (fun c4 => ?_)
  · have c4 := b01_n c4
    refine v_iload_n C dX6_dropped_9 rfl rfl ?_
    refine v_i2l C dX6_dropped_10 rfl ?_
    refine v_lconst (v := 0) C dX6_dropped_11 (by decide) ?_
    refine v_aload_n C dX6_dropped_12 rfl rfl ?_
    refine vm_get (v := .int (g 0)) C hM inX6_dropped_X6 0 (by decide) kwX6_dropped_65 rfl rfl dX6_dropped_13 ?_
    refine v_i2l C dX6_dropped_16 rfl ?_
    refine v_callSi C (c_X6_in l E zw _ _ _) (va_cwS 3 C.1.2.2.2.2 gX6_dropped_X6_in rfl rfl rfl (by decide +kernel) ⟨by decide, by decide⟩) rfl rfl (Nat.le_of_ble_eq_true rfl) dX6_dropped_17 ⟨Nat.le_of_ble_eq_true rfl, Nat.le_of_ble_eq_true rfl⟩ (fun r w1 hp => ?_)
    obtain ⟨rfl, rfl⟩ := hp
    refine v_if_ne (tgt := 28) C dX6_dropped_20 (by decide) (fun c20 => ?_) (fun c20 => ?_)
    · have c20 := b01_n c20
      simp only [t64, tl_0] at c20
      have ht9 := hI.tick
      obtain ⟨tt, htt, rfl⟩ : ∃ tt : Nat, tt ≤ 199 ∧ t = nI tt := ⟨t.toInt.toNat, by omega, nI_nat c20.1⟩
      obtain ⟨mm, hmm, rfl⟩ : ∃ mm : Nat, mm ≤ 5 ∧ mk = nI mm := ⟨mk.toInt.toNat, by omega, nI_nat c4.1⟩
      refine v_aload_n C dX6_dropped_28 rfl rfl ?_
      refine vm_get (v := .ref (ad 1)) C hM inX6_dropped_X6 1 (by decide) kwX6_dropped_7 rfl rfl dX6_dropped_29 ?_
      refine v_bipush (v := 6) C dX6_dropped_32 (by decide) ?_
      refine v_iload_n C dX6_dropped_34 rfl rfl ?_
      refine v_imul C dX6_dropped_35 ?_
      refine v_iload_n C dX6_dropped_36 rfl rfl ?_
      refine v_iadd C dX6_dropped_37 ?_
      rw [ix6]
      refine vm_zald (f := ar 1) C hM 1 rfl (vp_in_nI (by omega) (by decide)) dX6_dropped_38 ?_
      refine v_tov (congrArg (ar 1) (nI_clamp (show 6 * tt + mm < 2 ^ 31 by omega))) ?_
      refine v_if_eq (tgt := 46) C dX6_dropped_39 (by decide) (fun c39 => ?_) (fun c39 => ?_)
      · refine v_iconst (v := 0) C dX6_dropped_46 (by decide) ?_
        exact v_iret C hr dX6_dropped_47 (Nat.le_refl _) (Nat.le_refl _) ⟨_, rfl, ⟨rfl, by first | (rw [if_pos c4, if_pos c20, nI_clamp (by omega), nI_clamp (by omega), c39]; done) | (rw [if_pos c4, if_pos c20, nI_clamp (by omega), nI_clamp (by omega)]; exact ((hI.dr _ (by omega)).resolve_left c39).symm) | (rw [if_neg c4]; done) | (rw [if_pos c4, if_neg c20]; done)⟩⟩
      · refine v_iconst (v := 1) C dX6_dropped_42 (by decide) ?_
        refine v_goto (tgt := 47) C dX6_dropped_43 (by decide) ?_
        exact v_iret C hr dX6_dropped_47 (Nat.le_refl _) (Nat.le_refl _) ⟨_, rfl, ⟨rfl, by first | (rw [if_pos c4, if_pos c20, nI_clamp (by omega), nI_clamp (by omega), c39]; done) | (rw [if_pos c4, if_pos c20, nI_clamp (by omega), nI_clamp (by omega)]; exact ((hI.dr _ (by omega)).resolve_left c39).symm) | (rw [if_neg c4]; done) | (rw [if_pos c4, if_neg c20]; done)⟩⟩
    · have c20 := b01_0 c20
      simp only [t64, tl_0] at c20
      refine v_bipush (v := (-2)) C dX6_dropped_23 (by decide) ?_
      refine v_goto (tgt := 47) C dX6_dropped_25 (by decide) ?_
      exact v_iret C hr dX6_dropped_47 (Nat.le_refl _) (Nat.le_refl _) ⟨_, rfl, ⟨rfl, by first | (rw [if_pos c4, if_pos c20, nI_clamp (by omega), nI_clamp (by omega), c39]; done) | (rw [if_pos c4, if_pos c20, nI_clamp (by omega), nI_clamp (by omega)]; exact ((hI.dr _ (by omega)).resolve_left c39).symm) | (rw [if_neg c4]; done) | (rw [if_pos c4, if_neg c20]; done)⟩⟩
  · have c4 := b01_0 c4
    refine v_iconst (v := (-1)) C dX6_dropped_7 (by decide) ?_
    exact v_iret C hr dX6_dropped_8 (Nat.le_refl _) (Nat.le_refl _) ⟨_, rfl, ⟨rfl, by first | (rw [if_pos c4, if_pos c20, nI_clamp (by omega), nI_clamp (by omega), c39]; done) | (rw [if_pos c4, if_pos c20, nI_clamp (by omega), nI_clamp (by omega)]; exact ((hI.dr _ (by omega)).resolve_left c39).symm) | (rw [if_neg c4]; done) | (rw [if_pos c4, if_neg c20]; done)⟩⟩
theorem inX6_chief_X6 : ∀ x ∈ wsX60, x ∈ wsX6_chief := by decide +kernel
theorem kwX6_chief_65 : Cond.fieldLink RX6 65 "SeriesMarksModel" "tick" "I" ∈ wsX6_chief := by decide +kernel
theorem kwX6_chief_13 : Cond.fieldLink RX6 13 "SeriesMarksModel" "chief" "[I" ∈ wsX6_chief := by decide +kernel
set_option maxHeartbeats 4000000 in
set_option maxRecDepth 100000 in
theorem c_X6_chief (l : Launch) (E : gE) (zw : va_W) {ad : Nat → Nat} {g : Nat → Int32} {ar : Nat → Nat → Int32} (hM : mAt zw (mcl E ad g ar)) {tk ns np na : Nat} (hI : MI g ar tk ns np na) (mk v t : Int32) : CtI l yX6_chief wsX6_chief ({ frames := 2, cells := 0, slots := 0, locals := 45 }) E [.ref (ad 0), .int mk, .int v, .int t] zw (fun r w1 => zw = w1 ∧ r = if (0 ≤ mk.toInt ∧ mk.toInt ≤ 5) ∧ 0 ≤ v.toInt ∧ v.toInt ≤ 7 then (if 0 ≤ t.toInt ∧ t.toInt ≤ (g 0).toInt then ar 2 (48 * t.toNatClampNeg + 8 * mk.toNatClampNeg + v.toNatClampNeg) else (-2)) else (-1)) 0 0 := by
  refine Ct.of (cc := cX6_chief) (nL := 4) (ret := (some .int)) (by decide) rfl (Nat.le_of_ble_eq_true rfl) ?_
  intro p e s m args below meth c C hr hnm
  refine v_eqlv (lv9 := [(0, .ref (ad 0)), (1, .int mk), (2, .int v), (3, .int t)]) rfl ?_
  refine v_iload_n C dX6_chief_0 rfl rfl ?_
  refine v_callSi C (c_X6_isMark l E zw _) (va_cwS 1 C.1.2.2.2.2 gX6_chief_X6_isMark rfl rfl rfl (by decide +kernel) ⟨by decide, by decide⟩) rfl rfl (Nat.le_of_ble_eq_true rfl) dX6_chief_1 ⟨Nat.le_of_ble_eq_true rfl, Nat.le_of_ble_eq_true rfl⟩ (fun r w1 hp => ?_)
  obtain ⟨rfl, rfl⟩ := hp
  refine v_if_eq (tgt := 14) C dX6_chief_4 (by decide) (fun c4 => ?_) (fun c4 => ?_)
  · have c4 := b01_0 c4
    refine v_iconst (v := (-1)) C dX6_chief_14 (by decide) ?_
    exact v_iret C hr dX6_chief_15 (Nat.le_refl _) (Nat.le_refl _) ⟨_, rfl, ⟨rfl, by first | (rw [if_pos ⟨c4, c11⟩, if_pos c27, nI_clamp (by omega), nI_clamp (by omega), nI_clamp (by omega), nI_clamp (by omega)]; done) | (rw [if_pos ⟨c4, c11⟩, if_neg c27]; done) | (rw [if_neg (fun h => c4 h.1)]; done) | (rw [if_neg (fun h => c11 h.2)]; done)⟩⟩
  · have c4 := b01_n c4
    refine v_iload_n C dX6_chief_7 rfl rfl ?_
    refine v_callSi C (c_X6_isValue l E zw _) (va_cwS 1 C.1.2.2.2.2 gX6_chief_X6_isValue rfl rfl rfl (by decide +kernel) ⟨by decide, by decide⟩) rfl rfl (Nat.le_of_ble_eq_true rfl) dX6_chief_8 ⟨Nat.le_of_ble_eq_true rfl, Nat.le_of_ble_eq_true rfl⟩ (fun r w1 hp => ?_)
    obtain ⟨rfl, rfl⟩ := hp
    refine v_if_ne (tgt := 16) C dX6_chief_11 (by decide) (fun c11 => ?_) (fun c11 => ?_)
    · have c11 := b01_n c11
      refine v_iload_n C dX6_chief_16 rfl rfl ?_
      refine v_i2l C dX6_chief_17 rfl ?_
      refine v_lconst (v := 0) C dX6_chief_18 (by decide) ?_
      refine v_aload_n C dX6_chief_19 rfl rfl ?_
      refine vm_get (v := .int (g 0)) C hM inX6_chief_X6 0 (by decide) kwX6_chief_65 rfl rfl dX6_chief_20 ?_
      refine v_i2l C dX6_chief_23 rfl ?_
      refine v_callSi C (c_X6_in l E zw _ _ _) (va_cwS 3 C.1.2.2.2.2 gX6_chief_X6_in rfl rfl rfl (by decide +kernel) ⟨by decide, by decide⟩) rfl rfl (Nat.le_of_ble_eq_true rfl) dX6_chief_24 ⟨Nat.le_of_ble_eq_true rfl, Nat.le_of_ble_eq_true rfl⟩ (fun r w1 hp => ?_)
      obtain ⟨rfl, rfl⟩ := hp
      refine v_if_eq (tgt := 49) C dX6_chief_27 (by decide) (fun c27 => ?_) (fun c27 => ?_)
      · have c27 := b01_0 c27
        simp only [t64, tl_0] at c27
        refine v_bipush (v := (-2)) C dX6_chief_49 (by decide) ?_
        exact v_iret C hr dX6_chief_51 (Nat.le_refl _) (Nat.le_refl _) ⟨_, rfl, ⟨rfl, by first | (rw [if_pos ⟨c4, c11⟩, if_pos c27, nI_clamp (by omega), nI_clamp (by omega), nI_clamp (by omega), nI_clamp (by omega)]; done) | (rw [if_pos ⟨c4, c11⟩, if_neg c27]; done) | (rw [if_neg (fun h => c4 h.1)]; done) | (rw [if_neg (fun h => c11 h.2)]; done)⟩⟩
      · have c27 := b01_n c27
        simp only [t64, tl_0] at c27
        have ht9 := hI.tick
        obtain ⟨tt, htt, rfl⟩ : ∃ tt : Nat, tt ≤ 199 ∧ t = nI tt := ⟨t.toInt.toNat, by omega, nI_nat c27.1⟩
        obtain ⟨mm, hmm, rfl⟩ : ∃ mm : Nat, mm ≤ 5 ∧ mk = nI mm := ⟨mk.toInt.toNat, by omega, nI_nat c4.1⟩
        obtain ⟨vv, hvv, rfl⟩ : ∃ vv : Nat, vv ≤ 7 ∧ v = nI vv := ⟨v.toInt.toNat, by omega, nI_nat c11.1⟩
        refine v_aload_n C dX6_chief_30 rfl rfl ?_
        refine vm_get (v := .ref (ad 2)) C hM inX6_chief_X6 2 (by decide) kwX6_chief_13 rfl rfl dX6_chief_31 ?_
        refine v_bipush (v := 48) C dX6_chief_34 (by decide) ?_
        refine v_iload_n C dX6_chief_36 rfl rfl ?_
        refine v_imul C dX6_chief_37 ?_
        refine v_bipush (v := 8) C dX6_chief_38 (by decide) ?_
        refine v_iload_n C dX6_chief_40 rfl rfl ?_
        refine v_imul C dX6_chief_41 ?_
        refine v_iadd C dX6_chief_42 ?_
        refine v_at (pc9 := 43) rfl ?_
        refine v_iload_n C dX6_chief_43 rfl rfl ?_
        refine v_iadd C dX6_chief_44 ?_
        rw [ix48]
        refine vm_iald (f := ar 2) C hM 2 rfl (vp_in_nI (by omega) (by decide)) dX6_chief_45 ?_
        refine v_goto (tgt := 51) C dX6_chief_46 (by decide) ?_
        exact v_iret C hr dX6_chief_51 (Nat.le_refl _) (Nat.le_refl _) ⟨_, rfl, ⟨rfl, by first | (rw [if_pos ⟨c4, c11⟩, if_pos c27, nI_clamp (by omega), nI_clamp (by omega), nI_clamp (by omega), nI_clamp (by omega)]; done) | (rw [if_pos ⟨c4, c11⟩, if_neg c27]; done) | (rw [if_neg (fun h => c4 h.1)]; done) | (rw [if_neg (fun h => c11 h.2)]; done)⟩⟩
    · have c11 := b01_0 c11
      refine v_iconst (v := (-1)) C dX6_chief_14 (by decide) ?_
      exact v_iret C hr dX6_chief_15 (Nat.le_refl _) (Nat.le_refl _) ⟨_, rfl, ⟨rfl, by first | (rw [if_pos ⟨c4, c11⟩, if_pos c27, nI_clamp (by omega), nI_clamp (by omega), nI_clamp (by omega), nI_clamp (by omega)]; done) | (rw [if_pos ⟨c4, c11⟩, if_neg c27]; done) | (rw [if_neg (fun h => c4 h.1)]; done) | (rw [if_neg (fun h => c11 h.2)]; done)⟩⟩
/-- what is lost by a plan: weights, then worths -/
def lsA (f : Nat → Int32) (mk : Int32) : Nat → Int32
  | 0 => 0
  | i + 1 => lsA f mk i + (if (mk >>> (nI i &&& 31)) &&& 1 = 1 then f i else 0)
def lsB (b : Int32) (pa wo : Nat → Int32) (mk : Int32) : Nat → Int32
  | 0 => b
  | i + 1 => lsB b pa wo mk i + (if pa i &&& mk = 0 then 0 else wo i)
theorem inX6_lossOf_X6 : ∀ x ∈ wsX60, x ∈ wsX6_lossOf := by decide +kernel
theorem kwX6_lossOf_62 : Cond.fieldLink RX6 62 "SeriesMarksModel" "weight" "[I" ∈ wsX6_lossOf := by decide +kernel
set_option maxHeartbeats 4000000 in
set_option maxRecDepth 100000 in
theorem lpA_X6_lossOf {p : Program} {l : Launch} {e : Env} {R : Room} {s : State} {m : MethodId} {args : Array Value} {below : List Frame} {meth : Method} {c : Code} {cells slots : Nat} {Q : State → Prop} {E : gE} {zw : va_W} (C : gC p s m args meth c E cX6_lossOf 4 wsX6_lossOf yX6_lossOf.cls) {ad : Nat → Nat} {g : Nat → Int32} {ar : Nat → Nat → Int32} (hM : mAt zw (mcl E ad g ar)) {tk ns np na : Nat} (hI : MI g ar tk ns np na) {mk : Int32} (hK : V p l e R s m args below meth c E 4 zw cells slots Q 38 [(0, .ref (ad 0)), (1, .int mk), (2, .int (lsA (ar 22) mk 6)), (3, .int (nI 6))] []) : ∀ n i : Nat, i + n = 6 → V p l e R s m args below meth c E 4 zw cells slots Q 4 [(0, .ref (ad 0)), (1, .int mk), (2, .int (lsA (ar 22) mk i)), (3, .int (nI i))] [] := by
  intro n
  induction n with
  | zero =>
    intro i hi
    obtain rfl : i = 6 := by omega
    refine v_iload_n C dX6_lossOf_4 rfl rfl ?_
    refine v_bipush (v := 6) C dX6_lossOf_5 (by decide) ?_
    refine v_icmp_ge (tgt := 38) C dX6_lossOf_7 (by decide) (fun c7 => ?_) (fun c7 => absurd (by rw [fa_le, ti_6, nI_toInt (by omega)]; omega) c7)
    exact hK
  | succ n ih =>
    intro i hi
    refine v_iload_n C dX6_lossOf_4 rfl rfl ?_
    refine v_bipush (v := 6) C dX6_lossOf_5 (by decide) ?_
    refine v_icmp_ge (tgt := 38) C dX6_lossOf_7 (by decide) (fun c7 => absurd c7 (by rw [fa_le, ti_6, nI_toInt (by omega)]; omega)) (fun c7 => ?_)
    refine v_iload_n C dX6_lossOf_10 rfl rfl ?_
    refine v_iload_n C dX6_lossOf_11 rfl rfl ?_
    refine v_iload_n C dX6_lossOf_12 rfl rfl ?_
    refine v_ishr C dX6_lossOf_13 ?_
    refine v_iconst (v := 1) C dX6_lossOf_14 (by decide) ?_
    refine v_iand C dX6_lossOf_15 ?_
    refine v_at (pc9 := 16) rfl ?_
    refine v_iconst (v := 1) C dX6_lossOf_16 (by decide) ?_
    refine v_icmp_ne (tgt := 29) C dX6_lossOf_17 (by decide) (fun c17 => ?_) (fun c17 => ?_)
    · refine v_iconst (v := 0) C dX6_lossOf_29 (by decide) ?_
      refine v_tov (y := if (mk >>> (nI i &&& 31)) &&& 1 = 1 then ar 22 i else 0) (by first | (rw [if_pos c17, nI_clamp (by omega)]; done) | (rw [if_neg c17]; done)) ?_
      refine v_iadd C dX6_lossOf_30 ?_
      refine v_istore_n C dX6_lossOf_31 rfl (by decide) rfl ?_
      refine v_iincN C dX6_lossOf_32 rfl (by decide) rfl ?_
      refine v_goto (tgt := 4) C dX6_lossOf_35 (by decide) ?_
      exact ih (i + 1) (by omega)
    · refine v_aload_n C dX6_lossOf_20 rfl rfl ?_
      refine vm_get (v := .ref (ad 22)) C hM inX6_lossOf_X6 22 (by decide) kwX6_lossOf_62 rfl rfl dX6_lossOf_21 ?_
      refine v_iload_n C dX6_lossOf_24 rfl rfl ?_
      refine vm_iald (f := ar 22) C hM 18 rfl (vp_in_nI (by omega) (by decide)) dX6_lossOf_25 ?_
      refine v_goto (tgt := 30) C dX6_lossOf_26 (by decide) ?_
      refine v_tov (y := if (mk >>> (nI i &&& 31)) &&& 1 = 1 then ar 22 i else 0) (by first | (rw [if_pos c17, nI_clamp (by omega)]; done) | (rw [if_neg c17]; done)) ?_
      refine v_iadd C dX6_lossOf_30 ?_
      refine v_istore_n C dX6_lossOf_31 rfl (by decide) rfl ?_
      refine v_iincN C dX6_lossOf_32 rfl (by decide) rfl ?_
      refine v_goto (tgt := 4) C dX6_lossOf_35 (by decide) ?_
      exact ih (i + 1) (by omega)
theorem kwX6_lossOf_140 : Cond.fieldLink RX6 140 "SeriesMarksModel" "askings" "I" ∈ wsX6_lossOf := by decide +kernel
theorem kwX6_lossOf_50 : Cond.fieldLink RX6 50 "SeriesMarksModel" "parts" "[I" ∈ wsX6_lossOf := by decide +kernel
theorem kwX6_lossOf_59 : Cond.fieldLink RX6 59 "SeriesMarksModel" "worth" "[I" ∈ wsX6_lossOf := by decide +kernel
set_option maxHeartbeats 4000000 in
set_option maxRecDepth 100000 in
theorem lpB_X6_lossOf {p : Program} {l : Launch} {e : Env} {R : Room} {s : State} {m : MethodId} {args : Array Value} {below : List Frame} {meth : Method} {c : Code} {cells slots : Nat} {Q : State → Prop} {E : gE} {zw : va_W} (C : gC p s m args meth c E cX6_lossOf 4 wsX6_lossOf yX6_lossOf.cls) {ad : Nat → Nat} {g : Nat → Int32} {ar : Nat → Nat → Int32} (hM : mAt zw (mcl E ad g ar)) {tk ns np na : Nat} (hI : MI g ar tk ns np na) {mk b : Int32} (hK : V p l e R s m args below meth c E 4 zw cells slots Q 78 [(0, .ref (ad 0)), (1, .int mk), (2, .int (lsB b (ar 18) (ar 21) mk na)), (3, .int (nI na))] []) : ∀ n i : Nat, i + n = na → V p l e R s m args below meth c E 4 zw cells slots Q 40 [(0, .ref (ad 0)), (1, .int mk), (2, .int (lsB b (ar 18) (ar 21) mk i)), (3, .int (nI i))] [] := by
  intro n
  induction n with
  | zero =>
    intro i hi
    obtain rfl : i = na := by omega
    refine v_iload_n C dX6_lossOf_40 rfl rfl ?_
    refine v_aload_n C dX6_lossOf_41 rfl rfl ?_
    refine vm_get (v := .int (g 17)) C hM inX6_lossOf_X6 17 (by decide) kwX6_lossOf_140 rfl rfl dX6_lossOf_42 ?_
    refine v_icmp_ge (tgt := 78) C dX6_lossOf_45 (by decide) (fun c45 => ?_) (fun c45 => absurd (by rw [hI.2.2.2.1.1]; exact nI_le (Nat.le_refl _) (by have := hI.ask.2; omega)) c45)
    exact hK
  | succ n ih =>
    intro i hi
    refine v_iload_n C dX6_lossOf_40 rfl rfl ?_
    refine v_aload_n C dX6_lossOf_41 rfl rfl ?_
    refine vm_get (v := .int (g 17)) C hM inX6_lossOf_X6 17 (by decide) kwX6_lossOf_140 rfl rfl dX6_lossOf_42 ?_
    refine v_icmp_ge (tgt := 78) C dX6_lossOf_45 (by decide) (fun c45 => absurd c45 (by rw [hI.2.2.2.1.1]; exact nI_ge (by omega) (by have := hI.ask.2; omega))) (fun c45 => ?_)
    refine v_iload_n C dX6_lossOf_48 rfl rfl ?_
    refine v_aload_n C dX6_lossOf_49 rfl rfl ?_
    refine vm_get (v := .ref (ad 18)) C hM inX6_lossOf_X6 18 (by decide) kwX6_lossOf_50 rfl rfl dX6_lossOf_50 ?_
    refine v_iload_n C dX6_lossOf_53 rfl rfl ?_
    refine vm_iald (f := ar 18) C hM 14 rfl (vp_in_nI (by have := hI.ask.2; omega) (by decide)) dX6_lossOf_54 ?_
    refine v_at (pc9 := 55) rfl ?_
    rw [nI_clamp (show i < 2 ^ 31 by have := hI.ask.2; omega)]
    refine v_iload_n C dX6_lossOf_55 rfl rfl ?_
    refine v_iand C dX6_lossOf_56 ?_
    refine v_if_eq (tgt := 69) C dX6_lossOf_57 (by decide) (fun c57 => ?_) (fun c57 => ?_)
    · refine v_iconst (v := 0) C dX6_lossOf_69 (by decide) ?_
      refine v_tov (y := if ar 18 i &&& mk = 0 then 0 else ar 21 i) (by first | (rw [if_pos c57]; done) | (rw [if_neg c57, nI_clamp (show i < 2 ^ 31 by have := hI.ask.2; omega)]; done)) ?_
      refine v_iadd C dX6_lossOf_70 ?_
      refine v_istore_n C dX6_lossOf_71 rfl (by decide) rfl ?_
      refine v_iincN C dX6_lossOf_72 rfl (by decide) rfl ?_
      refine v_goto (tgt := 40) C dX6_lossOf_75 (by decide) ?_
      exact ih (i + 1) (by omega)
    · refine v_aload_n C dX6_lossOf_60 rfl rfl ?_
      refine vm_get (v := .ref (ad 21)) C hM inX6_lossOf_X6 21 (by decide) kwX6_lossOf_59 rfl rfl dX6_lossOf_61 ?_
      refine v_iload_n C dX6_lossOf_64 rfl rfl ?_
      refine vm_iald (f := ar 21) C hM 17 rfl (vp_in_nI (by have := hI.ask.2; omega) (by decide)) dX6_lossOf_65 ?_
      refine v_goto (tgt := 70) C dX6_lossOf_66 (by decide) ?_
      refine v_tov (y := if ar 18 i &&& mk = 0 then 0 else ar 21 i) (by first | (rw [if_pos c57]; done) | (rw [if_neg c57, nI_clamp (show i < 2 ^ 31 by have := hI.ask.2; omega)]; done)) ?_
      refine v_iadd C dX6_lossOf_70 ?_
      refine v_istore_n C dX6_lossOf_71 rfl (by decide) rfl ?_
      refine v_iincN C dX6_lossOf_72 rfl (by decide) rfl ?_
      refine v_goto (tgt := 40) C dX6_lossOf_75 (by decide) ?_
      exact ih (i + 1) (by omega)
set_option maxHeartbeats 4000000 in
set_option maxRecDepth 100000 in
theorem c_X6_lossOf (l : Launch) (E : gE) (zw : va_W) {ad : Nat → Nat} {g : Nat → Int32} {ar : Nat → Nat → Int32} (hM : mAt zw (mcl E ad g ar)) {tk ns np na : Nat} (hI : MI g ar tk ns np na) (mk : Int32) : CtI l yX6_lossOf wsX6_lossOf ({ frames := 0, cells := 0, slots := 0, locals := 0 }) E [.ref (ad 0), .int mk] zw (fun r w1 => zw = w1 ∧ r = lsB (lsA (ar 22) mk 6) (ar 18) (ar 21) mk na) 0 0 := by
  refine Ct.of (cc := cX6_lossOf) (nL := 4) (ret := (some .int)) (by decide) rfl (Nat.le_of_ble_eq_true rfl) ?_
  intro p e s m args below meth c C hr hnm
  refine v_eqlv (lv9 := [(0, .ref (ad 0)), (1, .int mk)]) rfl ?_
  refine v_iconst (v := 0) C dX6_lossOf_0 (by decide) ?_
  refine v_istore_n C dX6_lossOf_1 rfl (by decide) rfl ?_
  refine v_iconst (v := 0) C dX6_lossOf_2 (by decide) ?_
  refine v_tov nI_0.symm ?_
  refine v_istore_n C dX6_lossOf_3 rfl (by decide) rfl ?_
  refine lpA_X6_lossOf C hM hI ?_ 6 0 rfl
  refine v_iconst (v := 0) C dX6_lossOf_38 (by decide) ?_
  refine v_tov nI_0.symm ?_
  refine v_istore_n C dX6_lossOf_39 rfl (by decide) rfl ?_
  refine lpB_X6_lossOf C hM hI (b := lsA (ar 22) mk 6) ?_ na 0 (Nat.zero_add _)
  refine v_iload_n C dX6_lossOf_78 rfl rfl ?_
  exact v_iret C hr dX6_lossOf_79 (Nat.le_refl _) (Nat.le_refl _) ⟨_, rfl, ⟨rfl, rfl⟩⟩
theorem kwX6_loss_c129 : Cond.constantLong RX6 129 (63) ∈ wsX6_loss := by decide +kernel
set_option maxHeartbeats 4000000 in
set_option maxRecDepth 100000 in
theorem c_X6_loss (l : Launch) (E : gE) (zw : va_W) {ad : Nat → Nat} {g : Nat → Int32} {ar : Nat → Nat → Int32} (hM : mAt zw (mcl E ad g ar)) {tk ns np na : Nat} (hI : MI g ar tk ns np na) (mk : Int32) : CtI l yX6_loss wsX6_loss ({ frames := 1, cells := 0, slots := 0, locals := 25 }) E [.ref (ad 0), .int mk] zw (fun r w1 => zw = w1 ∧ r = if 0 ≤ mk.toInt ∧ mk.toInt ≤ 63 then lsB (lsA (ar 22) mk 6) (ar 18) (ar 21) mk na else (-2)) 0 0 := by
  refine Ct.of (cc := cX6_loss) (nL := 2) (ret := (some .int)) (by decide) rfl (Nat.le_of_ble_eq_true rfl) ?_
  intro p e s m args below meth c C hr hnm
  refine v_eqlv (lv9 := [(0, .ref (ad 0)), (1, .int mk)]) rfl ?_
  refine v_iload_n C dX6_loss_0 rfl rfl ?_
  refine v_i2l C dX6_loss_1 rfl ?_
  refine v_lconst (v := 0) C dX6_loss_2 (by decide) ?_
  refine v_ldc2 C kwX6_loss_c129 dX6_loss_3 ?_
  refine v_callSi C (c_X6_in l E zw _ _ _) (va_cwS 3 C.1.2.2.2.2 gX6_loss_X6_in rfl rfl rfl (by decide +kernel) ⟨by decide, by decide⟩) rfl rfl (Nat.le_of_ble_eq_true rfl) dX6_loss_6 ⟨Nat.le_of_ble_eq_true rfl, Nat.le_of_ble_eq_true rfl⟩ (fun r w1 hp => ?_)
  obtain ⟨rfl, rfl⟩ := hp
  refine v_if_eq (tgt := 20) C dX6_loss_9 (by decide) (fun c9 => ?_) (fun c9 => ?_)
  · have c9 := b01_0 c9
    simp only [t64, tl_0, tl_63] at c9
    refine v_bipush (v := (-2)) C dX6_loss_20 (by decide) ?_
    exact v_iret C hr dX6_loss_22 (Nat.le_refl _) (Nat.le_refl _) ⟨_, rfl, ⟨rfl, by first | (rw [if_pos c9]; done) | (rw [if_neg c9]; done)⟩⟩
  · have c9 := b01_n c9
    simp only [t64, tl_0, tl_63] at c9
    refine v_aload_n C dX6_loss_12 rfl rfl ?_
    refine v_iload_n C dX6_loss_13 rfl rfl ?_
    refine v_callVi C (c_X6_lossOf l E zw hM hI _) (cwV 1 C.1.2.2.2.2 gX6_loss_X6_lossOf rfl rfl rfl (by decide +kernel) ⟨by decide, by decide⟩) 12 7 (hM 0 _ rfl) rfl rfl rfl (Nat.le_of_ble_eq_true rfl) dX6_loss_14 ⟨Nat.le_of_ble_eq_true rfl, Nat.le_of_ble_eq_true rfl⟩ (fun r w1 hp => ?_)
    obtain ⟨rfl, rfl⟩ := hp
    refine v_goto (tgt := 22) C dX6_loss_17 (by decide) ?_
    exact v_iret C hr dX6_loss_22 (Nat.le_refl _) (Nat.le_refl _) ⟨_, rfl, ⟨rfl, by first | (rw [if_pos c9]; done) | (rw [if_neg c9]; done)⟩⟩
/-- whether a mark of an asking is dropped; whether a value of one is folded -/
def lkA (ar : Nat → Nat → Int32) (pa : Int32) (tt : Nat) : Nat → Int32
  | 0 => 0
  | i + 1 => if lkA ar pa tt i = 0 then (if (pa >>> (nI i &&& 31)) &&& 1 = 1 then (if ar 1 (6 * tt + i) = 0 then 0 else 1) else 0) else 1
def fdA (ar : Nat → Nat → Int32) (pa : Int32) (tt : Nat) : Nat → Int32
  | 0 => 0
  | i + 1 => if fdA ar pa tt i = 0 then (if (pa >>> (nI (i / 8) &&& 31)) &&& 1 = 1 then (if ar 2 (48 * tt + i) = nI (i % 8) then 0 else 1) else 0) else 1
theorem lkA_or (ar : Nat → Nat → Int32) (pa : Int32) (tt : Nat) : ∀ i, lkA ar pa tt i = 0 ∨ lkA ar pa tt i = 1
  | 0 => Or.inl rfl
  | i + 1 => by
    unfold lkA
    split
    · split
      · split
        · exact Or.inl rfl
        · exact Or.inr rfl
      · exact Or.inl rfl
    · exact Or.inr rfl
theorem fdA_or (ar : Nat → Nat → Int32) (pa : Int32) (tt : Nat) : ∀ i, fdA ar pa tt i = 0 ∨ fdA ar pa tt i = 1
  | 0 => Or.inl rfl
  | i + 1 => by
    unfold fdA
    split
    · split
      · split
        · exact Or.inl rfl
        · exact Or.inr rfl
      · exact Or.inl rfl
    · exact Or.inr rfl
theorem ix48b (tt i : Nat) : 48 * nI tt + nI i = nI (48 * tt + i) := by rw [show (48 : Int32) = nI 48 from rfl, pk_mul, nI_add]
theorem inX6_lacksAt_X6 : ∀ x ∈ wsX60, x ∈ wsX6_lacksAt := by decide +kernel
theorem kwX6_lacksAt_50 : Cond.fieldLink RX6 50 "SeriesMarksModel" "parts" "[I" ∈ wsX6_lacksAt := by decide +kernel
theorem kwX6_lacksAt_7 : Cond.fieldLink RX6 7 "SeriesMarksModel" "dropped" "[Z" ∈ wsX6_lacksAt := by decide +kernel
set_option maxHeartbeats 4000000 in
set_option maxRecDepth 100000 in
theorem lp_X6_lacksAt {p : Program} {l : Launch} {e : Env} {R : Room} {s : State} {m : MethodId} {args : Array Value} {below : List Frame} {meth : Method} {c : Code} {cells slots : Nat} {Q : State → Prop} {E : gE} {zw : va_W} (C : gC p s m args meth c E cX6_lacksAt 5 wsX6_lacksAt yX6_lacksAt.cls) {ad : Nat → Nat} {g : Nat → Int32} {ar : Nat → Nat → Int32} (hM : mAt zw (mcl E ad g ar)) {tk ns np na : Nat} (hI : MI g ar tk ns np na) {a : Int32} (hw1 : 0 ≤ a.toInt) (hw2 : a.toInt < na) {tt : Nat} (htt : tt ≤ 199) (hK : V p l e R s m args below meth c E 5 zw cells slots Q 58 [(0, .ref (ad 0)), (1, .int a), (2, .int (nI tt)), (3, .int (lkA ar (ar 18 a.toNatClampNeg) tt 6)), (4, .int (nI 6))] []) : ∀ n i : Nat, i + n = 6 → V p l e R s m args below meth c E 5 zw cells slots Q 5 [(0, .ref (ad 0)), (1, .int a), (2, .int (nI tt)), (3, .int (lkA ar (ar 18 a.toNatClampNeg) tt i)), (4, .int (nI i))] [] := by
  intro n
  induction n with
  | zero =>
    intro i hi
    obtain rfl : i = 6 := by omega
    refine v_iload C dX6_lacksAt_5 rfl ?_
    refine v_bipush (v := 6) C dX6_lacksAt_7 (by decide) ?_
    refine v_icmp_ge (tgt := 58) C dX6_lacksAt_9 (by decide) (fun c9 => ?_) (fun c9 => absurd (by rw [fa_le, ti_6, nI_toInt (by omega)]; omega) c9)
    exact hK
  | succ n ih =>
    intro i hi
    refine v_iload C dX6_lacksAt_5 rfl ?_
    refine v_bipush (v := 6) C dX6_lacksAt_7 (by decide) ?_
    refine v_icmp_ge (tgt := 58) C dX6_lacksAt_9 (by decide) (fun c9 => absurd c9 (by rw [fa_le, ti_6, nI_toInt (by omega)]; omega)) (fun c9 => ?_)
    refine v_iload_n C dX6_lacksAt_12 rfl rfl ?_
    refine v_if_ne (tgt := 46) C dX6_lacksAt_13 (by decide) (fun c13 => ?_) (fun c13 => ?_)
    · refine v_iconst (v := 1) C dX6_lacksAt_46 (by decide) ?_
      refine v_goto (tgt := 51) C dX6_lacksAt_47 (by decide) ?_
      refine v_tov (y := lkA ar (ar 18 a.toNatClampNeg) tt (i + 1)) (by unfold lkA; first | (rw [if_neg c13]; done) | (rw [if_pos c13, if_neg c28]; done) | (rw [if_pos c13, if_pos c28, if_pos c43]; done) | (rw [if_pos c13, if_pos c28, if_neg c43]; done)) ?_
      refine v_istore_n C dX6_lacksAt_51 rfl (by decide) rfl ?_
      refine v_iincN C dX6_lacksAt_52 rfl (by decide) rfl ?_
      refine v_goto (tgt := 5) C dX6_lacksAt_55 (by decide) ?_
      exact ih (i + 1) (by omega)
    · refine v_aload_n C dX6_lacksAt_16 rfl rfl ?_
      refine vm_get (v := .ref (ad 18)) C hM inX6_lacksAt_X6 18 (by decide) kwX6_lacksAt_50 rfl rfl dX6_lacksAt_17 ?_
      refine v_iload_n C dX6_lacksAt_20 rfl rfl ?_
      refine vm_iald (f := ar 18) C hM 14 rfl (in_of (by omega) (by have := hI.ask.2; omega)) dX6_lacksAt_21 ?_
      refine v_iload C dX6_lacksAt_22 rfl ?_
      refine v_ishr C dX6_lacksAt_24 ?_
      refine v_iconst (v := 1) C dX6_lacksAt_25 (by decide) ?_
      refine v_iand C dX6_lacksAt_26 ?_
      refine v_iconst (v := 1) C dX6_lacksAt_27 (by decide) ?_
      refine v_at (pc9 := 28) rfl ?_
      refine v_icmp_ne (tgt := 50) C dX6_lacksAt_28 (by decide) (fun c28 => ?_) (fun c28 => ?_)
      · refine v_iconst (v := 0) C dX6_lacksAt_50 (by decide) ?_
        refine v_tov (y := lkA ar (ar 18 a.toNatClampNeg) tt (i + 1)) (by unfold lkA; first | (rw [if_neg c13]; done) | (rw [if_pos c13, if_neg c28]; done) | (rw [if_pos c13, if_pos c28, if_pos c43]; done) | (rw [if_pos c13, if_pos c28, if_neg c43]; done)) ?_
        refine v_istore_n C dX6_lacksAt_51 rfl (by decide) rfl ?_
        refine v_iincN C dX6_lacksAt_52 rfl (by decide) rfl ?_
        refine v_goto (tgt := 5) C dX6_lacksAt_55 (by decide) ?_
        exact ih (i + 1) (by omega)
      · refine v_aload_n C dX6_lacksAt_31 rfl rfl ?_
        refine vm_get (v := .ref (ad 1)) C hM inX6_lacksAt_X6 1 (by decide) kwX6_lacksAt_7 rfl rfl dX6_lacksAt_32 ?_
        refine v_bipush (v := 6) C dX6_lacksAt_35 (by decide) ?_
        refine v_iload_n C dX6_lacksAt_37 rfl rfl ?_
        refine v_imul C dX6_lacksAt_38 ?_
        refine v_iload C dX6_lacksAt_39 rfl ?_
        refine v_iadd C dX6_lacksAt_41 ?_
        rw [ix6]
        refine vm_zald (f := ar 1) C hM 1 rfl (vp_in_nI (by omega) (by decide)) dX6_lacksAt_42 ?_
        rw [nI_clamp (by omega)]
        refine v_if_eq (tgt := 50) C dX6_lacksAt_43 (by decide) (fun c43 => ?_) (fun c43 => ?_)
        · refine v_iconst (v := 0) C dX6_lacksAt_50 (by decide) ?_
          refine v_tov (y := lkA ar (ar 18 a.toNatClampNeg) tt (i + 1)) (by unfold lkA; first | (rw [if_neg c13]; done) | (rw [if_pos c13, if_neg c28]; done) | (rw [if_pos c13, if_pos c28, if_pos c43]; done) | (rw [if_pos c13, if_pos c28, if_neg c43]; done)) ?_
          refine v_istore_n C dX6_lacksAt_51 rfl (by decide) rfl ?_
          refine v_iincN C dX6_lacksAt_52 rfl (by decide) rfl ?_
          refine v_goto (tgt := 5) C dX6_lacksAt_55 (by decide) ?_
          exact ih (i + 1) (by omega)
        · refine v_iconst (v := 1) C dX6_lacksAt_46 (by decide) ?_
          refine v_goto (tgt := 51) C dX6_lacksAt_47 (by decide) ?_
          refine v_tov (y := lkA ar (ar 18 a.toNatClampNeg) tt (i + 1)) (by unfold lkA; first | (rw [if_neg c13]; done) | (rw [if_pos c13, if_neg c28]; done) | (rw [if_pos c13, if_pos c28, if_pos c43]; done) | (rw [if_pos c13, if_pos c28, if_neg c43]; done)) ?_
          refine v_istore_n C dX6_lacksAt_51 rfl (by decide) rfl ?_
          refine v_iincN C dX6_lacksAt_52 rfl (by decide) rfl ?_
          refine v_goto (tgt := 5) C dX6_lacksAt_55 (by decide) ?_
          exact ih (i + 1) (by omega)
set_option maxHeartbeats 4000000 in
set_option maxRecDepth 100000 in
theorem c_X6_lacksAt (l : Launch) (E : gE) (zw : va_W) {ad : Nat → Nat} {g : Nat → Int32} {ar : Nat → Nat → Int32} (hM : mAt zw (mcl E ad g ar)) {tk ns np na : Nat} (hI : MI g ar tk ns np na) {a : Int32} (hw1 : 0 ≤ a.toInt) (hw2 : a.toInt < na) {tt : Nat} (htt : tt ≤ 199) : CtI l yX6_lacksAt wsX6_lacksAt ({ frames := 0, cells := 0, slots := 0, locals := 0 }) E [.ref (ad 0), .int a, .int (nI tt)] zw (fun r w1 => zw = w1 ∧ r = lkA ar (ar 18 a.toNatClampNeg) tt 6) 0 0 := by
  refine Ct.of (cc := cX6_lacksAt) (nL := 5) (ret := (some .boolean)) (by decide) rfl (Nat.le_of_ble_eq_true rfl) ?_
  intro p e s m args below meth c C hr hnm
  refine v_eqlv (lv9 := [(0, .ref (ad 0)), (1, .int a), (2, .int (nI tt))]) rfl ?_
  refine v_iconst (v := 0) C dX6_lacksAt_0 (by decide) ?_
  refine v_istore_n C dX6_lacksAt_1 rfl (by decide) rfl ?_
  refine v_iconst (v := 0) C dX6_lacksAt_2 (by decide) ?_
  refine v_tov nI_0.symm ?_
  refine v_istore C dX6_lacksAt_3 (by decide) rfl ?_
  refine lp_X6_lacksAt C hM hI hw1 hw2 htt ?_ 6 0 rfl
  refine v_iload_n C dX6_lacksAt_58 rfl rfl ?_
  exact v_zret C hr dX6_lacksAt_59 (lkA_or _ _ _ _) (Nat.le_refl _) (Nat.le_refl _) ⟨_, rfl, ⟨rfl, rfl⟩⟩
theorem inX6_isFolded_X6 : ∀ x ∈ wsX60, x ∈ wsX6_isFolded := by decide +kernel
theorem kwX6_isFolded_50 : Cond.fieldLink RX6 50 "SeriesMarksModel" "parts" "[I" ∈ wsX6_isFolded := by decide +kernel
theorem kwX6_isFolded_13 : Cond.fieldLink RX6 13 "SeriesMarksModel" "chief" "[I" ∈ wsX6_isFolded := by decide +kernel
set_option maxHeartbeats 4000000 in
set_option maxRecDepth 100000 in
theorem lp_X6_isFolded {p : Program} {l : Launch} {e : Env} {R : Room} {s : State} {m : MethodId} {args : Array Value} {below : List Frame} {meth : Method} {c : Code} {cells slots : Nat} {Q : State → Prop} {E : gE} {zw : va_W} (C : gC p s m args meth c E cX6_isFolded 5 wsX6_isFolded yX6_isFolded.cls) {ad : Nat → Nat} {g : Nat → Int32} {ar : Nat → Nat → Int32} (hM : mAt zw (mcl E ad g ar)) {tk ns np na : Nat} (hI : MI g ar tk ns np na) {a : Int32} (hw1 : 0 ≤ a.toInt) (hw2 : a.toInt < na) {tt : Nat} (htt : tt ≤ 199) (hK : V p l e R s m args below meth c E 5 zw cells slots Q 66 [(0, .ref (ad 0)), (1, .int a), (2, .int (nI tt)), (3, .int (fdA ar (ar 18 a.toNatClampNeg) tt 48)), (4, .int (nI 48))] []) : ∀ n i : Nat, i + n = 48 → V p l e R s m args below meth c E 5 zw cells slots Q 5 [(0, .ref (ad 0)), (1, .int a), (2, .int (nI tt)), (3, .int (fdA ar (ar 18 a.toNatClampNeg) tt i)), (4, .int (nI i))] [] := by
  intro n
  induction n with
  | zero =>
    intro i hi
    obtain rfl : i = 48 := by omega
    refine v_iload C dX6_isFolded_5 rfl ?_
    refine v_bipush (v := 48) C dX6_isFolded_7 (by decide) ?_
    refine v_icmp_ge (tgt := 66) C dX6_isFolded_9 (by decide) (fun c9 => ?_) (fun c9 => absurd (by rw [fa_le, ti_48, nI_toInt (by omega)]; omega) c9)
    exact hK
  | succ n ih =>
    intro i hi
    refine v_iload C dX6_isFolded_5 rfl ?_
    refine v_bipush (v := 48) C dX6_isFolded_7 (by decide) ?_
    refine v_icmp_ge (tgt := 66) C dX6_isFolded_9 (by decide) (fun c9 => absurd c9 (by rw [fa_le, ti_48, nI_toInt (by omega)]; omega)) (fun c9 => ?_)
    refine v_iload_n C dX6_isFolded_12 rfl rfl ?_
    refine v_if_ne (tgt := 54) C dX6_isFolded_13 (by decide) (fun c13 => ?_) (fun c13 => ?_)
    · refine v_iconst (v := 1) C dX6_isFolded_54 (by decide) ?_
      refine v_goto (tgt := 59) C dX6_isFolded_55 (by decide) ?_
      refine v_tov (y := fdA ar (ar 18 a.toNatClampNeg) tt (i + 1)) (by unfold fdA; first | (rw [if_neg c13]; done) | (rw [if_pos c13, if_neg c31]; done) | (rw [if_pos c13, if_pos c31, if_pos c51]; done) | (rw [if_pos c13, if_pos c31, if_neg c51]; done)) ?_
      refine v_istore_n C dX6_isFolded_59 rfl (by decide) rfl ?_
      refine v_iincN C dX6_isFolded_60 rfl (by decide) rfl ?_
      refine v_goto (tgt := 5) C dX6_isFolded_63 (by decide) ?_
      exact ih (i + 1) (by omega)
    · refine v_aload_n C dX6_isFolded_16 rfl rfl ?_
      refine vm_get (v := .ref (ad 18)) C hM inX6_isFolded_X6 18 (by decide) kwX6_isFolded_50 rfl rfl dX6_isFolded_17 ?_
      refine v_iload_n C dX6_isFolded_20 rfl rfl ?_
      refine vm_iald (f := ar 18) C hM 14 rfl (in_of (by omega) (by have := hI.ask.2; omega)) dX6_isFolded_21 ?_
      refine v_iload C dX6_isFolded_22 rfl ?_
      refine v_bipush (v := 8) C dX6_isFolded_24 (by decide) ?_
      refine v_idiv C dX6_isFolded_26 (by decide) ?_
      rw [show (8 : Int32) = nI 8 from rfl, pk_div (by omega) (by omega) (by omega)]
      refine v_ishr C dX6_isFolded_27 ?_
      refine v_iconst (v := 1) C dX6_isFolded_28 (by decide) ?_
      refine v_at (pc9 := 29) rfl ?_
      refine v_iand C dX6_isFolded_29 ?_
      refine v_iconst (v := 1) C dX6_isFolded_30 (by decide) ?_
      refine v_icmp_ne (tgt := 58) C dX6_isFolded_31 (by decide) (fun c31 => ?_) (fun c31 => ?_)
      · refine v_iconst (v := 0) C dX6_isFolded_58 (by decide) ?_
        refine v_tov (y := fdA ar (ar 18 a.toNatClampNeg) tt (i + 1)) (by unfold fdA; first | (rw [if_neg c13]; done) | (rw [if_pos c13, if_neg c31]; done) | (rw [if_pos c13, if_pos c31, if_pos c51]; done) | (rw [if_pos c13, if_pos c31, if_neg c51]; done)) ?_
        refine v_istore_n C dX6_isFolded_59 rfl (by decide) rfl ?_
        refine v_iincN C dX6_isFolded_60 rfl (by decide) rfl ?_
        refine v_goto (tgt := 5) C dX6_isFolded_63 (by decide) ?_
        exact ih (i + 1) (by omega)
      · refine v_aload_n C dX6_isFolded_34 rfl rfl ?_
        refine vm_get (v := .ref (ad 2)) C hM inX6_isFolded_X6 2 (by decide) kwX6_isFolded_13 rfl rfl dX6_isFolded_35 ?_
        refine v_bipush (v := 48) C dX6_isFolded_38 (by decide) ?_
        refine v_iload_n C dX6_isFolded_40 rfl rfl ?_
        refine v_imul C dX6_isFolded_41 ?_
        refine v_iload C dX6_isFolded_42 rfl ?_
        refine v_iadd C dX6_isFolded_44 ?_
        rw [ix48b]
        refine vm_iald (f := ar 2) C hM 2 rfl (vp_in_nI (by omega) (by decide)) dX6_isFolded_45 ?_
        rw [nI_clamp (by omega)]
        refine v_iload C dX6_isFolded_46 rfl ?_
        refine v_at (pc9 := 48) rfl ?_
        refine v_bipush (v := 8) C dX6_isFolded_48 (by decide) ?_
        refine v_irem C dX6_isFolded_50 (by decide) ?_
        rw [show (8 : Int32) = nI 8 from rfl, pk_rem (by omega) (by omega) (by omega)]
        refine v_icmp_eq (tgt := 58) C dX6_isFolded_51 (by decide) (fun c51 => ?_) (fun c51 => ?_)
        · refine v_iconst (v := 0) C dX6_isFolded_58 (by decide) ?_
          refine v_tov (y := fdA ar (ar 18 a.toNatClampNeg) tt (i + 1)) (by unfold fdA; first | (rw [if_neg c13]; done) | (rw [if_pos c13, if_neg c31]; done) | (rw [if_pos c13, if_pos c31, if_pos c51]; done) | (rw [if_pos c13, if_pos c31, if_neg c51]; done)) ?_
          refine v_istore_n C dX6_isFolded_59 rfl (by decide) rfl ?_
          refine v_iincN C dX6_isFolded_60 rfl (by decide) rfl ?_
          refine v_goto (tgt := 5) C dX6_isFolded_63 (by decide) ?_
          exact ih (i + 1) (by omega)
        · refine v_iconst (v := 1) C dX6_isFolded_54 (by decide) ?_
          refine v_goto (tgt := 59) C dX6_isFolded_55 (by decide) ?_
          refine v_tov (y := fdA ar (ar 18 a.toNatClampNeg) tt (i + 1)) (by unfold fdA; first | (rw [if_neg c13]; done) | (rw [if_pos c13, if_neg c31]; done) | (rw [if_pos c13, if_pos c31, if_pos c51]; done) | (rw [if_pos c13, if_pos c31, if_neg c51]; done)) ?_
          refine v_istore_n C dX6_isFolded_59 rfl (by decide) rfl ?_
          refine v_iincN C dX6_isFolded_60 rfl (by decide) rfl ?_
          refine v_goto (tgt := 5) C dX6_isFolded_63 (by decide) ?_
          exact ih (i + 1) (by omega)
set_option maxHeartbeats 4000000 in
set_option maxRecDepth 100000 in
theorem c_X6_isFolded (l : Launch) (E : gE) (zw : va_W) {ad : Nat → Nat} {g : Nat → Int32} {ar : Nat → Nat → Int32} (hM : mAt zw (mcl E ad g ar)) {tk ns np na : Nat} (hI : MI g ar tk ns np na) {a : Int32} (hw1 : 0 ≤ a.toInt) (hw2 : a.toInt < na) {tt : Nat} (htt : tt ≤ 199) : CtI l yX6_isFolded wsX6_isFolded ({ frames := 0, cells := 0, slots := 0, locals := 0 }) E [.ref (ad 0), .int a, .int (nI tt)] zw (fun r w1 => zw = w1 ∧ r = fdA ar (ar 18 a.toNatClampNeg) tt 48) 0 0 := by
  refine Ct.of (cc := cX6_isFolded) (nL := 5) (ret := (some .boolean)) (by decide) rfl (Nat.le_of_ble_eq_true rfl) ?_
  intro p e s m args below meth c C hr hnm
  refine v_eqlv (lv9 := [(0, .ref (ad 0)), (1, .int a), (2, .int (nI tt))]) rfl ?_
  refine v_iconst (v := 0) C dX6_isFolded_0 (by decide) ?_
  refine v_istore_n C dX6_isFolded_1 rfl (by decide) rfl ?_
  refine v_iconst (v := 0) C dX6_isFolded_2 (by decide) ?_
  refine v_tov nI_0.symm ?_
  refine v_istore C dX6_isFolded_3 (by decide) rfl ?_
  refine lp_X6_isFolded C hM hI hw1 hw2 htt ?_ 48 0 rfl
  refine v_iload_n C dX6_isFolded_66 rfl rfl ?_
  exact v_zret C hr dX6_isFolded_67 (fdA_or _ _ _ _) (Nat.le_refl _) (Nat.le_refl _) ⟨_, rfl, ⟨rfl, rfl⟩⟩
/-- the first tick from t on, of n, at which z isn't 0 -/
def fiT (z : Nat → Int32) : Nat → Nat → Int32
  | 0, _ => -9
  | n + 1, t => if z t = 0 then fiT z n (t + 1) else nI t
set_option maxHeartbeats 4000000 in
set_option maxRecDepth 100000 in
theorem lp_X6_lacks {p : Program} {l : Launch} {e : Env} {s : State} {m : MethodId} {args : Array Value} {below : List Frame} {meth : Method} {c : Code} {E : gE} {zw : va_W} (C : gC p s m args meth c E cX6_lacks 5 wsX6_lacks yX6_lacks.cls) (hr : meth.sig.returnType = some .int) {ad : Nat → Nat} {g : Nat → Int32} {ar : Nat → Nat → Int32} (hM : mAt zw (mcl E ad g ar)) {tk ns np na : Nat} (hI : MI g ar tk ns np na) {a f : Int32} (hw1 : 0 ≤ a.toInt) (hw2 : a.toInt < na) {tt : Nat} (htt : tt ≤ 199) (res : Int32) : ∀ n i : Nat, i + n = tt + 1 → fiT (fun t => lkA ar (ar 18 a.toNatClampNeg) t 6) n i = res → V p l e ({ frames := 2, cells := 0, slots := 0, locals := 47 }) s m args below meth c E 5 zw 0 0 (MQ below (gQ E (fun v w1 => ∃ r : Int32, v = some (.int r) ∧ (zw = w1 ∧ r = res))) args s 0 0 (gA E)) 25 [(0, .ref (ad 0)), (1, .int a), (2, .int f), (3, .int (nI tt)), (4, .int (nI i))] [] := by
  intro n
  induction n with
  | zero =>
    intro i hi hR
    obtain rfl : i = tt + 1 := by omega
    refine v_iload C dX6_lacks_25 rfl ?_
    refine v_iload_n C dX6_lacks_27 rfl rfl ?_
    refine v_icmp_gt (tgt := 50) C dX6_lacks_28 (by decide) (fun c28 => ?_) (fun c28 => absurd (nI_lt (by omega) (by omega)) c28)
    refine v_bipush (v := (-9)) C dX6_lacks_50 (by decide) ?_
    exact v_iret C hr dX6_lacks_52 (Nat.le_refl _) (Nat.le_refl _) ⟨_, rfl, ⟨rfl, hR⟩⟩
  | succ n ih =>
    intro i hi hR
    refine v_iload C dX6_lacks_25 rfl ?_
    refine v_iload_n C dX6_lacks_27 rfl rfl ?_
    refine v_icmp_gt (tgt := 50) C dX6_lacks_28 (by decide) (fun c28 => absurd c28 (nI_nlt (by omega) (by omega))) (fun c28 => ?_)
    refine v_aload_n C dX6_lacks_31 rfl rfl ?_
    refine v_iload_n C dX6_lacks_32 rfl rfl ?_
    refine v_iload C dX6_lacks_33 rfl ?_
    refine v_callVi C (c_X6_lacksAt l E zw hM hI hw1 hw2 (tt := i) (by omega)) (cwV 2 C.1.2.2.2.2 gX6_lacks_X6_lacksAt rfl rfl rfl (by decide +kernel) ⟨by decide, by decide⟩) 12 7 (hM 0 _ rfl) rfl rfl rfl (Nat.le_of_ble_eq_true rfl) dX6_lacks_35 ⟨Nat.le_of_ble_eq_true rfl, Nat.le_of_ble_eq_true rfl⟩ (fun r w1 hp => ?_)
    obtain ⟨rfl, hr9⟩ := hp
    rw [hr9]
    clear hr9
    refine v_if_eq (tgt := 44) C dX6_lacks_38 (by decide) (fun c38 => ?_) (fun c38 => ?_)
    · refine v_iincN C dX6_lacks_44 rfl (by decide) rfl ?_
      refine v_goto (tgt := 25) C dX6_lacks_47 (by decide) ?_
      exact ih (i + 1) (by omega) (by rw [← hR]; exact (if_pos c38).symm)
    · refine v_iload C dX6_lacks_41 rfl ?_
      exact v_iret C hr dX6_lacks_43 (Nat.le_refl _) (Nat.le_refl _) ⟨_, rfl, ⟨rfl, by rw [← hR]; exact (if_neg c38).symm⟩⟩
set_option maxHeartbeats 4000000 in
set_option maxRecDepth 100000 in
theorem c_X6_lacks (l : Launch) (E : gE) (zw : va_W) {ad : Nat → Nat} {g : Nat → Int32} {ar : Nat → Nat → Int32} (hM : mAt zw (mcl E ad g ar)) {tk ns np na : Nat} (hI : MI g ar tk ns np na) (a f t : Int32) : CtI l yX6_lacks wsX6_lacks ({ frames := 2, cells := 0, slots := 0, locals := 47 }) E [.ref (ad 0), .int a, .int f, .int t] zw (fun r w1 => zw = w1 ∧ r = if 0 ≤ a.toInt ∧ a.toInt < na then (if 0 ≤ t.toInt ∧ t.toInt ≤ (g 0).toInt ∧ 0 ≤ f.toInt ∧ f.toInt ≤ t.toInt then fiT (fun t => lkA ar (ar 18 a.toNatClampNeg) t 6) (t.toNatClampNeg + 1 - f.toNatClampNeg) f.toNatClampNeg else (-2)) else (-1)) 0 0 := by
  refine Ct.of (cc := cX6_lacks) (nL := 5) (ret := (some .int)) (by decide) rfl (Nat.le_of_ble_eq_true rfl) ?_
  intro p e s m args below meth c C hr hnm
  refine v_eqlv (lv9 := [(0, .ref (ad 0)), (1, .int a), (2, .int f), (3, .int t)]) rfl ?_
  refine v_aload_n C dX6_lacks_0 rfl rfl ?_
  refine v_iload_n C dX6_lacks_1 rfl rfl ?_
  refine v_callVi C (c_X6_isAsking l E zw hM hI _) (cwV 1 C.1.2.2.2.2 gX6_lacks_X6_isAsking rfl rfl rfl (by decide +kernel) ⟨by decide, by decide⟩) 12 7 (hM 0 _ rfl) rfl rfl rfl (Nat.le_of_ble_eq_true rfl) dX6_lacks_2 ⟨Nat.le_of_ble_eq_true rfl, Nat.le_of_ble_eq_true rfl⟩ (fun r w1 hp => ?_)
  obtain ⟨rfl, rfl⟩ := hp
  refine v_if_ne (tgt := 10) C dX6_lacks_5 (by decide) (fun c5 => ?_) (fun c5 => ?_)
  · have c5 := b01_n c5
    refine v_aload_n C dX6_lacks_10 rfl rfl ?_
    refine v_iload_n C dX6_lacks_11 rfl rfl ?_
    refine v_iload_n C dX6_lacks_12 rfl rfl ?_
    refine v_callVi C (c_X6_isSpan l E zw hM _ _) (cwV 2 C.1.2.2.2.2 gX6_lacks_X6_isSpan rfl rfl rfl (by decide +kernel) ⟨by decide, by decide⟩) 12 7 (hM 0 _ rfl) rfl rfl rfl (Nat.le_of_ble_eq_true rfl) dX6_lacks_13 ⟨Nat.le_of_ble_eq_true rfl, Nat.le_of_ble_eq_true rfl⟩ (fun r w1 hp => ?_)
    obtain ⟨rfl, rfl⟩ := hp
    refine v_if_ne (tgt := 22) C dX6_lacks_16 (by decide) (fun c16 => ?_) (fun c16 => ?_)
    · have c16 := b01_n c16
      have ht9 := hI.tick
      obtain ⟨tt, htt, rfl⟩ : ∃ tt : Nat, tt ≤ 199 ∧ t = nI tt := ⟨t.toInt.toNat, by omega, nI_nat c16.1⟩
      have ht8 : (nI tt).toInt = tt := nI_toInt (by omega)
      obtain ⟨ff, hff, rfl⟩ : ∃ ff : Nat, ff ≤ tt ∧ f = nI ff := ⟨f.toInt.toNat, by omega, nI_nat c16.2.2.1⟩
      refine v_iload_n C dX6_lacks_22 rfl rfl ?_
      refine v_istore C dX6_lacks_23 (by decide) rfl ?_
      exact lp_X6_lacks C hr hM hI c5.1 c5.2 htt _ (tt + 1 - ff) ff (by omega) (by rw [if_pos c5, if_pos c16, nI_clamp (by omega), nI_clamp (by omega)])
    · have c16 := b01_0 c16
      refine v_bipush (v := (-2)) C dX6_lacks_19 (by decide) ?_
      exact v_iret C hr dX6_lacks_21 (Nat.le_refl _) (Nat.le_refl _) ⟨_, rfl, ⟨rfl, by first | (rw [if_neg c5]; done) | (rw [if_pos c5, if_neg c16]; done)⟩⟩
  · have c5 := b01_0 c5
    refine v_iconst (v := (-1)) C dX6_lacks_8 (by decide) ?_
    exact v_iret C hr dX6_lacks_9 (Nat.le_refl _) (Nat.le_refl _) ⟨_, rfl, ⟨rfl, by first | (rw [if_neg c5]; done) | (rw [if_pos c5, if_neg c16]; done)⟩⟩
