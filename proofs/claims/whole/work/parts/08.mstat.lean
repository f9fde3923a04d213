set_option maxHeartbeats 4000000 in
set_option maxRecDepth 100000 in
theorem c_X6_in (l : Launch) (E : gE) (zw : va_W) (v lo hi : Int64) : CtI l yX6_in wsX6_in ({ frames := 0, cells := 0, slots := 0, locals := 0 }) E [.long v, .long lo, .long hi] zw (fun r w1 => zw = w1 ∧ r = b01 (lo.toInt ≤ v.toInt ∧ v.toInt ≤ hi.toInt)) 0 0 := by
  refine Ct.of (cc := cX6_in) (nL := 6) (ret := (some .boolean)) (by decide) rfl (Nat.le_of_ble_eq_true rfl) ?_
  intro p e s m args below meth c C hr hnm
  refine v_eqlv (lv9 := [(0, .long v), (2, .long lo), (4, .long hi)]) rfl ?_
  refine v_lload_n C dX6_in_0 rfl rfl ?_
  refine v_lload_n C dX6_in_1 rfl rfl ?_
  refine v_lcmp C dX6_in_2 ?_
  refine v_if_lt (tgt := 17) C dX6_in_3 (by decide) (fun c3 => ?_) (fun c3 => ?_)
  · refine v_iconst (v := 0) C dX6_in_17 (by decide) ?_
    exact v_zret C hr dX6_in_18 (by decide) (Nat.le_refl _) (Nat.le_refl _) ⟨_, rfl, ⟨rfl, by first | exact (b01_f (fun h => absurd ((fa_lt64 _ _).mp ((lg_cmp_lt _ _).mp c3)) (Int.not_lt.mpr h.1))).symm | exact (b01_f (fun h => absurd ((fa_lt64 _ _).mp ((lg_cmp_gt _ _).mp c10)) (Int.not_lt.mpr h.2))).symm | exact (b01_t ⟨Int.not_lt.mp (fun h => c3 ((lg_cmp_lt _ _).mpr ((fa_lt64 _ _).mpr h))), Int.not_lt.mp (fun h => c10 ((lg_cmp_gt _ _).mpr ((fa_lt64 _ _).mpr h)))⟩).symm⟩⟩
  · refine v_lload_n C dX6_in_6 rfl rfl ?_
    refine v_lload C dX6_in_7 rfl ?_
    refine v_lcmp C dX6_in_9 ?_
    refine v_if_gt (tgt := 17) C dX6_in_10 (by decide) (fun c10 => ?_) (fun c10 => ?_)
    · refine v_iconst (v := 0) C dX6_in_17 (by decide) ?_
      exact v_zret C hr dX6_in_18 (by decide) (Nat.le_refl _) (Nat.le_refl _) ⟨_, rfl, ⟨rfl, by first | exact (b01_f (fun h => absurd ((fa_lt64 _ _).mp ((lg_cmp_lt _ _).mp c3)) (Int.not_lt.mpr h.1))).symm | exact (b01_f (fun h => absurd ((fa_lt64 _ _).mp ((lg_cmp_gt _ _).mp c10)) (Int.not_lt.mpr h.2))).symm | exact (b01_t ⟨Int.not_lt.mp (fun h => c3 ((lg_cmp_lt _ _).mpr ((fa_lt64 _ _).mpr h))), Int.not_lt.mp (fun h => c10 ((lg_cmp_gt _ _).mpr ((fa_lt64 _ _).mpr h)))⟩).symm⟩⟩
    · refine v_iconst (v := 1) C dX6_in_13 (by decide) ?_
      refine v_goto (tgt := 18) C dX6_in_14 (by decide) ?_
      exact v_zret C hr dX6_in_18 (by decide) (Nat.le_refl _) (Nat.le_refl _) ⟨_, rfl, ⟨rfl, by first | exact (b01_f (fun h => absurd ((fa_lt64 _ _).mp ((lg_cmp_lt _ _).mp c3)) (Int.not_lt.mpr h.1))).symm | exact (b01_f (fun h => absurd ((fa_lt64 _ _).mp ((lg_cmp_gt _ _).mp c10)) (Int.not_lt.mpr h.2))).symm | exact (b01_t ⟨Int.not_lt.mp (fun h => c3 ((lg_cmp_lt _ _).mpr ((fa_lt64 _ _).mpr h))), Int.not_lt.mp (fun h => c10 ((lg_cmp_gt _ _).mpr ((fa_lt64 _ _).mpr h)))⟩).symm⟩⟩
theorem kwX6_isMark_c73 : Cond.constantLong RX6 73 (5) ∈ wsX6_isMark := by decide +kernel
set_option maxHeartbeats 4000000 in
set_option maxRecDepth 100000 in
theorem c_X6_isMark (l : Launch) (E : gE) (zw : va_W) (x : Int32) : CtI l yX6_isMark wsX6_isMark ({ frames := 1, cells := 0, slots := 0, locals := 25 }) E [.int x] zw (fun r w1 => zw = w1 ∧ r = b01 (0 ≤ x.toInt ∧ x.toInt ≤ 5)) 0 0 := by
  refine Ct.of (cc := cX6_isMark) (nL := 1) (ret := (some .boolean)) (by decide) rfl (Nat.le_of_ble_eq_true rfl) ?_
  intro p e s m args below meth c C hr hnm
  refine v_eqlv (lv9 := [(0, .int x)]) rfl ?_
  refine v_iload_n C dX6_isMark_0 rfl rfl ?_
  refine v_i2l C dX6_isMark_1 rfl ?_
  refine v_lconst (v := 0) C dX6_isMark_2 (by decide) ?_
  refine v_ldc2 C kwX6_isMark_c73 dX6_isMark_3 ?_
  refine v_callSi C (c_X6_in l E zw _ _ _) (va_cwS 3 C.1.2.2.2.2 gX6_isMark_X6_in rfl rfl rfl (by decide +kernel) ⟨by decide, by decide⟩) rfl rfl (Nat.le_of_ble_eq_true rfl) dX6_isMark_6 ⟨Nat.le_of_ble_eq_true rfl, Nat.le_of_ble_eq_true rfl⟩ (fun r w1 hp => ?_)
  obtain ⟨rfl, rfl⟩ := hp
  exact v_zret C hr dX6_isMark_9 (b01_or _) (Nat.le_refl _) (Nat.le_refl _) ⟨_, rfl, ⟨rfl, b01_c (by rw [t64, tl_0, tl_5])⟩⟩
theorem kwX6_isValue_c75 : Cond.constantLong RX6 75 (7) ∈ wsX6_isValue := by decide +kernel
set_option maxHeartbeats 4000000 in
set_option maxRecDepth 100000 in
theorem c_X6_isValue (l : Launch) (E : gE) (zw : va_W) (x : Int32) : CtI l yX6_isValue wsX6_isValue ({ frames := 1, cells := 0, slots := 0, locals := 25 }) E [.int x] zw (fun r w1 => zw = w1 ∧ r = b01 (0 ≤ x.toInt ∧ x.toInt ≤ 7)) 0 0 := by
  refine Ct.of (cc := cX6_isValue) (nL := 1) (ret := (some .boolean)) (by decide) rfl (Nat.le_of_ble_eq_true rfl) ?_
  intro p e s m args below meth c C hr hnm
  refine v_eqlv (lv9 := [(0, .int x)]) rfl ?_
  refine v_iload_n C dX6_isValue_0 rfl rfl ?_
  refine v_i2l C dX6_isValue_1 rfl ?_
  refine v_lconst (v := 0) C dX6_isValue_2 (by decide) ?_
  refine v_ldc2 C kwX6_isValue_c75 dX6_isValue_3 ?_
  refine v_callSi C (c_X6_in l E zw _ _ _) (va_cwS 3 C.1.2.2.2.2 gX6_isValue_X6_in rfl rfl rfl (by decide +kernel) ⟨by decide, by decide⟩) rfl rfl (Nat.le_of_ble_eq_true rfl) dX6_isValue_6 ⟨Nat.le_of_ble_eq_true rfl, Nat.le_of_ble_eq_true rfl⟩ (fun r w1 hp => ?_)
  obtain ⟨rfl, rfl⟩ := hp
  exact v_zret C hr dX6_isValue_9 (b01_or _) (Nat.le_refl _) (Nat.le_refl _) ⟨_, rfl, ⟨rfl, b01_c (by rw [t64, tl_0, tl_7])⟩⟩
theorem kwX6_isName_c77 : Cond.constantLong RX6 77 (262143) ∈ wsX6_isName := by decide +kernel
set_option maxHeartbeats 4000000 in
set_option maxRecDepth 100000 in
theorem c_X6_isName (l : Launch) (E : gE) (zw : va_W) (x : Int32) : CtI l yX6_isName wsX6_isName ({ frames := 1, cells := 0, slots := 0, locals := 25 }) E [.int x] zw (fun r w1 => zw = w1 ∧ r = b01 (0 ≤ x.toInt ∧ x.toInt ≤ 262143)) 0 0 := by
  refine Ct.of (cc := cX6_isName) (nL := 1) (ret := (some .boolean)) (by decide) rfl (Nat.le_of_ble_eq_true rfl) ?_
  intro p e s m args below meth c C hr hnm
  refine v_eqlv (lv9 := [(0, .int x)]) rfl ?_
  refine v_iload_n C dX6_isName_0 rfl rfl ?_
  refine v_i2l C dX6_isName_1 rfl ?_
  refine v_lconst (v := 0) C dX6_isName_2 (by decide) ?_
  refine v_ldc2 C kwX6_isName_c77 dX6_isName_3 ?_
  refine v_callSi C (c_X6_in l E zw _ _ _) (va_cwS 3 C.1.2.2.2.2 gX6_isName_X6_in rfl rfl rfl (by decide +kernel) ⟨by decide, by decide⟩) rfl rfl (Nat.le_of_ble_eq_true rfl) dX6_isName_6 ⟨Nat.le_of_ble_eq_true rfl, Nat.le_of_ble_eq_true rfl⟩ (fun r w1 hp => ?_)
  obtain ⟨rfl, rfl⟩ := hp
  exact v_zret C hr dX6_isName_9 (b01_or _) (Nat.le_refl _) (Nat.le_refl _) ⟨_, rfl, ⟨rfl, b01_c (by rw [t64, tl_0, tl_n])⟩⟩
/-- the octal digit of a name -/
def dgt (x mk : Int32) : Int32 := (x >>> ((3 * mk) &&& 31)) &&& 7
set_option maxHeartbeats 4000000 in
set_option maxRecDepth 100000 in
theorem c_X6_digit (l : Launch) (E : gE) (zw : va_W) (x mk : Int32) : CtI l yX6_digit wsX6_digit ({ frames := 0, cells := 0, slots := 0, locals := 0 }) E [.int x, .int mk] zw (fun r w1 => zw = w1 ∧ r = dgt x mk) 0 0 := by
  refine Ct.of (cc := cX6_digit) (nL := 2) (ret := (some .int)) (by decide) rfl (Nat.le_of_ble_eq_true rfl) ?_
  intro p e s m args below meth c C hr hnm
  refine v_eqlv (lv9 := [(0, .int x), (1, .int mk)]) rfl ?_
  refine v_iload_n C dX6_digit_0 rfl rfl ?_
  refine v_iconst (v := 3) C dX6_digit_1 (by decide) ?_
  refine v_iload_n C dX6_digit_2 rfl rfl ?_
  refine v_imul C dX6_digit_3 ?_
  refine v_ishr C dX6_digit_4 ?_
  refine v_bipush (v := 7) C dX6_digit_5 (by decide) ?_
  refine v_iand C dX6_digit_7 ?_
  exact v_iret C hr dX6_digit_8 (Nat.le_refl _) (Nat.le_refl _) ⟨_, rfl, ⟨rfl, rfl⟩⟩
/-- a name with the digits of some marks put to 0, mark by mark -/
def woI (x mk : Int32) : Nat → Int32
  | 0 => x
  | i + 1 => if (mk >>> (nI i &&& 31)) &&& 1 = 1 then woI x mk i &&& ((7 <<< ((3 * nI i) &&& 31)) ^^^ (-1)) else woI x mk i
set_option maxHeartbeats 4000000 in
set_option maxRecDepth 100000 in
theorem lp_X6_without {p : Program} {l : Launch} {e : Env} {R : Room} {s : State} {m : MethodId} {args : Array Value} {below : List Frame} {meth : Method} {c : Code} {cells slots : Nat} {Q : State → Prop} {E : gE} {zw : va_W} (C : gC p s m args meth c E cX6_without 4 wsX6_without yX6_without.cls) {x mk : Int32} (hK : V p l e R s m args below meth c E 4 zw cells slots Q 40 [(0, .int x), (1, .int mk), (2, .int (woI x mk 6)), (3, .int (nI 6))] []) : ∀ n i : Nat, i + n = 6 → V p l e R s m args below meth c E 4 zw cells slots Q 4 [(0, .int x), (1, .int mk), (2, .int (woI x mk i)), (3, .int (nI i))] [] := by
  intro n
  induction n with
  | zero =>
    intro i hi
    obtain rfl : i = 6 := by omega
    refine v_iload_n C dX6_without_4 rfl rfl ?_
    refine v_bipush (v := 6) C dX6_without_5 (by decide) ?_
    refine v_icmp_ge (tgt := 40) C dX6_without_7 (by decide) (fun c7 => ?_) (fun c7 => absurd (by rw [fa_le, ti_6, nI_toInt (by omega)]; omega) c7)
    exact hK
  | succ n ih =>
    intro i hi
    refine v_iload_n C dX6_without_4 rfl rfl ?_
    refine v_bipush (v := 6) C dX6_without_5 (by decide) ?_
    refine v_icmp_ge (tgt := 40) C dX6_without_7 (by decide) (fun c7 => absurd c7 (by rw [fa_le, ti_6, nI_toInt (by omega)]; omega)) (fun c7 => ?_)
    refine v_iload_n C dX6_without_10 rfl rfl ?_
    refine v_iload_n C dX6_without_11 rfl rfl ?_
    refine v_ishr C dX6_without_12 ?_
    refine v_iconst (v := 1) C dX6_without_13 (by decide) ?_
    refine v_iand C dX6_without_14 ?_
    refine v_iconst (v := 1) C dX6_without_15 (by decide) ?_
    refine v_at (pc9 := 16) rfl ?_
    refine v_icmp_ne (tgt := 32) C dX6_without_16 (by decide) (fun c16 => ?_) (fun c16 => ?_)
    · refine v_iload_n C dX6_without_32 rfl rfl ?_
      refine v_tov (show _ = woI x mk (i + 1) from by first | exact (if_pos c16).symm | exact (if_neg c16).symm | exact (if_pos (Decidable.of_not_not c16)).symm) ?_
      refine v_istore_n C dX6_without_33 rfl (by decide) rfl ?_
      refine v_iincN C dX6_without_34 rfl (by decide) rfl ?_
      refine v_goto (tgt := 4) C dX6_without_37 (by decide) ?_
      exact ih (i + 1) (by omega)
    · refine v_iload_n C dX6_without_19 rfl rfl ?_
      refine v_bipush (v := 7) C dX6_without_20 (by decide) ?_
      refine v_iconst (v := 3) C dX6_without_22 (by decide) ?_
      refine v_iload_n C dX6_without_23 rfl rfl ?_
      refine v_imul C dX6_without_24 ?_
      refine v_ishl C dX6_without_25 ?_
      refine v_iconst (v := (-1)) C dX6_without_26 (by decide) ?_
      refine v_ixor C dX6_without_27 ?_
      refine v_iand C dX6_without_28 ?_
      refine v_at (pc9 := 29) rfl ?_
      refine v_goto (tgt := 33) C dX6_without_29 (by decide) ?_
      refine v_tov (show _ = woI x mk (i + 1) from by first | exact (if_pos c16).symm | exact (if_neg c16).symm | exact (if_pos (Decidable.of_not_not c16)).symm) ?_
      refine v_istore_n C dX6_without_33 rfl (by decide) rfl ?_
      refine v_iincN C dX6_without_34 rfl (by decide) rfl ?_
      refine v_goto (tgt := 4) C dX6_without_37 (by decide) ?_
      exact ih (i + 1) (by omega)
set_option maxHeartbeats 4000000 in
set_option maxRecDepth 100000 in
theorem c_X6_without (l : Launch) (E : gE) (zw : va_W) (x mk : Int32) : CtI l yX6_without wsX6_without ({ frames := 0, cells := 0, slots := 0, locals := 0 }) E [.int x, .int mk] zw (fun r w1 => zw = w1 ∧ r = woI x mk 6) 0 0 := by
  refine Ct.of (cc := cX6_without) (nL := 4) (ret := (some .int)) (by decide) rfl (Nat.le_of_ble_eq_true rfl) ?_
  intro p e s m args below meth c C hr hnm
  refine v_eqlv (lv9 := [(0, .int x), (1, .int mk)]) rfl ?_
  refine v_iload_n C dX6_without_0 rfl rfl ?_
  refine v_istore_n C dX6_without_1 rfl (by decide) rfl ?_
  refine v_iconst (v := 0) C dX6_without_2 (by decide) ?_
  refine v_tov nI_0.symm ?_
  refine v_istore_n C dX6_without_3 rfl (by decide) rfl ?_
  refine lp_X6_without C ?_ 6 0 rfl
  refine v_iload_n C dX6_without_40 rfl rfl ?_
  exact v_iret C hr dX6_without_41 (Nat.le_refl _) (Nat.le_refl _) ⟨_, rfl, ⟨rfl, rfl⟩⟩
