set_option maxHeartbeats 4000000 in
set_option maxRecDepth 100000 in
theorem c_X5_isMark (l : Launch) (E : gE) (zw : va_W) (x : Int32) : CtI l yX5_isMark wsX5_isMark ({ frames := 0, cells := 0, slots := 0, locals := 0 }) E [.int x] zw (fun r w1 => zw = w1 ∧ r = b01 (0 ≤ x.toInt ∧ x.toInt ≤ 5)) 0 0 := by
  refine Ct.of (cc := cX5_isMark) (nL := 1) (ret := (some .boolean)) (by decide) rfl (Nat.le_of_ble_eq_true rfl) ?_
  intro p e s m args below meth c C hr hnm
  refine v_eqlv (lv9 := [(0, .int x)]) rfl ?_
  refine v_iload_n C dX5_isMark_0 rfl rfl ?_
  refine v_if_lt (tgt := 14) C dX5_isMark_1 (by decide) (fun c1 => ?_) (fun c1 => ?_)
  · rw [fa_lt, ti_0] at c1
    refine v_iconst (v := 0) C dX5_isMark_14 (by decide) ?_
    exact v_zret C hr dX5_isMark_15 (by decide) (Nat.le_refl _) (Nat.le_refl _) ⟨_, rfl, ⟨rfl, (by first | exact (b01_t (by omega)).symm | exact (b01_f (by omega)).symm)⟩⟩
  · rw [fa_lt, ti_0] at c1
    refine v_iload_n C dX5_isMark_4 rfl rfl ?_
    refine v_bipush (v := 6) C dX5_isMark_5 (by decide) ?_
    refine v_icmp_ge (tgt := 14) C dX5_isMark_7 (by decide) (fun c7 => ?_) (fun c7 => ?_)
    · rw [fa_le, ti_6] at c7
      refine v_iconst (v := 0) C dX5_isMark_14 (by decide) ?_
      exact v_zret C hr dX5_isMark_15 (by decide) (Nat.le_refl _) (Nat.le_refl _) ⟨_, rfl, ⟨rfl, (by first | exact (b01_t (by omega)).symm | exact (b01_f (by omega)).symm)⟩⟩
    · rw [fa_le, ti_6] at c7
      refine v_iconst (v := 1) C dX5_isMark_10 (by decide) ?_
      refine v_goto (tgt := 15) C dX5_isMark_11 (by decide) ?_
      exact v_zret C hr dX5_isMark_15 (by decide) (Nat.le_refl _) (Nat.le_refl _) ⟨_, rfl, ⟨rfl, (by first | exact (b01_t (by omega)).symm | exact (b01_f (by omega)).symm)⟩⟩
set_option maxHeartbeats 4000000 in
set_option maxRecDepth 100000 in
theorem c_X5_isValue (l : Launch) (E : gE) (zw : va_W) (x : Int32) : CtI l yX5_isValue wsX5_isValue ({ frames := 0, cells := 0, slots := 0, locals := 0 }) E [.int x] zw (fun r w1 => zw = w1 ∧ r = b01 (0 ≤ x.toInt ∧ x.toInt ≤ 7)) 0 0 := by
  refine Ct.of (cc := cX5_isValue) (nL := 1) (ret := (some .boolean)) (by decide) rfl (Nat.le_of_ble_eq_true rfl) ?_
  intro p e s m args below meth c C hr hnm
  refine v_eqlv (lv9 := [(0, .int x)]) rfl ?_
  refine v_iload_n C dX5_isValue_0 rfl rfl ?_
  refine v_if_lt (tgt := 14) C dX5_isValue_1 (by decide) (fun c1 => ?_) (fun c1 => ?_)
  · rw [fa_lt, ti_0] at c1
    refine v_iconst (v := 0) C dX5_isValue_14 (by decide) ?_
    exact v_zret C hr dX5_isValue_15 (by decide) (Nat.le_refl _) (Nat.le_refl _) ⟨_, rfl, ⟨rfl, (by first | exact (b01_t (by omega)).symm | exact (b01_f (by omega)).symm)⟩⟩
  · rw [fa_lt, ti_0] at c1
    refine v_iload_n C dX5_isValue_4 rfl rfl ?_
    refine v_bipush (v := 8) C dX5_isValue_5 (by decide) ?_
    refine v_icmp_ge (tgt := 14) C dX5_isValue_7 (by decide) (fun c7 => ?_) (fun c7 => ?_)
    · rw [fa_le, ti_8] at c7
      refine v_iconst (v := 0) C dX5_isValue_14 (by decide) ?_
      exact v_zret C hr dX5_isValue_15 (by decide) (Nat.le_refl _) (Nat.le_refl _) ⟨_, rfl, ⟨rfl, (by first | exact (b01_t (by omega)).symm | exact (b01_f (by omega)).symm)⟩⟩
    · rw [fa_le, ti_8] at c7
      refine v_iconst (v := 1) C dX5_isValue_10 (by decide) ?_
      refine v_goto (tgt := 15) C dX5_isValue_11 (by decide) ?_
      exact v_zret C hr dX5_isValue_15 (by decide) (Nat.le_refl _) (Nat.le_refl _) ⟨_, rfl, ⟨rfl, (by first | exact (b01_t (by omega)).symm | exact (b01_f (by omega)).symm)⟩⟩
theorem kwX5_isName_c226 : Cond.constant RX5 226 (262143) ∈ wsX5_isName := by decide +kernel
set_option maxHeartbeats 4000000 in
set_option maxRecDepth 100000 in
theorem c_X5_isName (l : Launch) (E : gE) (zw : va_W) (x : Int32) : CtI l yX5_isName wsX5_isName ({ frames := 0, cells := 0, slots := 0, locals := 0 }) E [.int x] zw (fun r w1 => zw = w1 ∧ r = b01 (0 ≤ x.toInt ∧ x.toInt ≤ 262143)) 0 0 := by
  refine Ct.of (cc := cX5_isName) (nL := 1) (ret := (some .boolean)) (by decide) rfl (Nat.le_of_ble_eq_true rfl) ?_
  intro p e s m args below meth c C hr hnm
  refine v_eqlv (lv9 := [(0, .int x)]) rfl ?_
  refine v_iload_n C dX5_isName_0 rfl rfl ?_
  refine v_if_lt (tgt := 14) C dX5_isName_1 (by decide) (fun c1 => ?_) (fun c1 => ?_)
  · rw [fa_lt, ti_0] at c1
    refine v_iconst (v := 0) C dX5_isName_14 (by decide) ?_
    exact v_zret C hr dX5_isName_15 (by decide) (Nat.le_refl _) (Nat.le_refl _) ⟨_, rfl, ⟨rfl, (by first | exact (b01_t (by omega)).symm | exact (b01_f (by omega)).symm)⟩⟩
  · rw [fa_lt, ti_0] at c1
    refine v_iload_n C dX5_isName_4 rfl rfl ?_
    refine v_ldc C kwX5_isName_c226 dX5_isName_5 ?_
    refine v_icmp_gt (tgt := 14) C dX5_isName_7 (by decide) (fun c7 => ?_) (fun c7 => ?_)
    · rw [fa_lt, ti_n] at c7
      refine v_iconst (v := 0) C dX5_isName_14 (by decide) ?_
      exact v_zret C hr dX5_isName_15 (by decide) (Nat.le_refl _) (Nat.le_refl _) ⟨_, rfl, ⟨rfl, (by first | exact (b01_t (by omega)).symm | exact (b01_f (by omega)).symm)⟩⟩
    · rw [fa_lt, ti_n] at c7
      refine v_iconst (v := 1) C dX5_isName_10 (by decide) ?_
      refine v_goto (tgt := 15) C dX5_isName_11 (by decide) ?_
      exact v_zret C hr dX5_isName_15 (by decide) (Nat.le_refl _) (Nat.le_refl _) ⟨_, rfl, ⟨rfl, (by first | exact (b01_t (by omega)).symm | exact (b01_f (by omega)).symm)⟩⟩
set_option maxHeartbeats 4000000 in
set_option maxRecDepth 100000 in
theorem c_X5_isSetOfMarks (l : Launch) (E : gE) (zw : va_W) (x : Int32) : CtI l yX5_isSetOfMarks wsX5_isSetOfMarks ({ frames := 0, cells := 0, slots := 0, locals := 0 }) E [.int x] zw (fun r w1 => zw = w1 ∧ r = b01 (0 ≤ x.toInt ∧ x.toInt ≤ 63)) 0 0 := by
  refine Ct.of (cc := cX5_isSetOfMarks) (nL := 1) (ret := (some .boolean)) (by decide) rfl (Nat.le_of_ble_eq_true rfl) ?_
  intro p e s m args below meth c C hr hnm
  refine v_eqlv (lv9 := [(0, .int x)]) rfl ?_
  refine v_iload_n C dX5_isSetOfMarks_0 rfl rfl ?_
  refine v_if_lt (tgt := 14) C dX5_isSetOfMarks_1 (by decide) (fun c1 => ?_) (fun c1 => ?_)
  · rw [fa_lt, ti_0] at c1
    refine v_iconst (v := 0) C dX5_isSetOfMarks_14 (by decide) ?_
    exact v_zret C hr dX5_isSetOfMarks_15 (by decide) (Nat.le_refl _) (Nat.le_refl _) ⟨_, rfl, ⟨rfl, (by first | exact (b01_t (by omega)).symm | exact (b01_f (by omega)).symm)⟩⟩
  · rw [fa_lt, ti_0] at c1
    refine v_iload_n C dX5_isSetOfMarks_4 rfl rfl ?_
    refine v_bipush (v := 63) C dX5_isSetOfMarks_5 (by decide) ?_
    refine v_icmp_gt (tgt := 14) C dX5_isSetOfMarks_7 (by decide) (fun c7 => ?_) (fun c7 => ?_)
    · rw [fa_lt, ti_63] at c7
      refine v_iconst (v := 0) C dX5_isSetOfMarks_14 (by decide) ?_
      exact v_zret C hr dX5_isSetOfMarks_15 (by decide) (Nat.le_refl _) (Nat.le_refl _) ⟨_, rfl, ⟨rfl, (by first | exact (b01_t (by omega)).symm | exact (b01_f (by omega)).symm)⟩⟩
    · rw [fa_lt, ti_63] at c7
      refine v_iconst (v := 1) C dX5_isSetOfMarks_10 (by decide) ?_
      refine v_goto (tgt := 15) C dX5_isSetOfMarks_11 (by decide) ?_
      exact v_zret C hr dX5_isSetOfMarks_15 (by decide) (Nat.le_refl _) (Nat.le_refl _) ⟨_, rfl, ⟨rfl, (by first | exact (b01_t (by omega)).symm | exact (b01_f (by omega)).symm)⟩⟩
set_option maxHeartbeats 4000000 in
set_option maxRecDepth 100000 in
theorem c_X5_digit (l : Launch) (E : gE) (zw : va_W) (x mk : Int32) : CtI l yX5_digit wsX5_digit ({ frames := 0, cells := 0, slots := 0, locals := 0 }) E [.int x, .int mk] zw (fun r w1 => zw = w1 ∧ r = dgt x mk) 0 0 := by
  refine Ct.of (cc := cX5_digit) (nL := 2) (ret := (some .int)) (by decide) rfl (Nat.le_of_ble_eq_true rfl) ?_
  intro p e s m args below meth c C hr hnm
  refine v_eqlv (lv9 := [(0, .int x), (1, .int mk)]) rfl ?_
  refine v_iload_n C dX5_digit_0 rfl rfl ?_
  refine v_iconst (v := 3) C dX5_digit_1 (by decide) ?_
  refine v_iload_n C dX5_digit_2 rfl rfl ?_
  refine v_imul C dX5_digit_3 ?_
  refine v_ishr C dX5_digit_4 ?_
  refine v_bipush (v := 7) C dX5_digit_5 (by decide) ?_
  refine v_iand C dX5_digit_7 ?_
  exact v_iret C hr dX5_digit_8 (Nat.le_refl _) (Nat.le_refl _) ⟨_, rfl, ⟨rfl, rfl⟩⟩
set_option maxHeartbeats 4000000 in
set_option maxRecDepth 100000 in
theorem c_X5_atPlace (l : Launch) (E : gE) (zw : va_W) (x mk : Int32) : CtI l yX5_atPlace wsX5_atPlace ({ frames := 0, cells := 0, slots := 0, locals := 0 }) E [.int x, .int mk] zw (fun r w1 => zw = w1 ∧ r = x <<< ((3 * mk) &&& 31)) 0 0 := by
  refine Ct.of (cc := cX5_atPlace) (nL := 2) (ret := (some .int)) (by decide) rfl (Nat.le_of_ble_eq_true rfl) ?_
  intro p e s m args below meth c C hr hnm
  refine v_eqlv (lv9 := [(0, .int x), (1, .int mk)]) rfl ?_
  refine v_iload_n C dX5_atPlace_0 rfl rfl ?_
  refine v_iconst (v := 3) C dX5_atPlace_1 (by decide) ?_
  refine v_iload_n C dX5_atPlace_2 rfl rfl ?_
  refine v_imul C dX5_atPlace_3 ?_
  refine v_ishl C dX5_atPlace_4 ?_
  exact v_iret C hr dX5_atPlace_5 (Nat.le_refl _) (Nat.le_refl _) ⟨_, rfl, ⟨rfl, rfl⟩⟩
set_option maxHeartbeats 4000000 in
set_option maxRecDepth 100000 in
theorem c_X5_hasBit (l : Launch) (E : gE) (zw : va_W) (x mk : Int32) : CtI l yX5_hasBit wsX5_hasBit ({ frames := 0, cells := 0, slots := 0, locals := 0 }) E [.int x, .int mk] zw (fun r w1 => zw = w1 ∧ r = b01 ((x >>> (mk &&& 31)) &&& 1 = 1)) 0 0 := by
  refine Ct.of (cc := cX5_hasBit) (nL := 2) (ret := (some .boolean)) (by decide) rfl (Nat.le_of_ble_eq_true rfl) ?_
  intro p e s m args below meth c C hr hnm
  refine v_eqlv (lv9 := [(0, .int x), (1, .int mk)]) rfl ?_
  refine v_iload_n C dX5_hasBit_0 rfl rfl ?_
  refine v_iload_n C dX5_hasBit_1 rfl rfl ?_
  refine v_ishr C dX5_hasBit_2 ?_
  refine v_iconst (v := 1) C dX5_hasBit_3 (by decide) ?_
  refine v_iand C dX5_hasBit_4 ?_
  refine v_iconst (v := 1) C dX5_hasBit_5 (by decide) ?_
  refine v_icmp_ne (tgt := 13) C dX5_hasBit_6 (by decide) (fun c6 => ?_) (fun c6 => ?_)
  · refine v_iconst (v := 0) C dX5_hasBit_13 (by decide) ?_
    exact v_zret C hr dX5_hasBit_14 (by decide) (Nat.le_refl _) (Nat.le_refl _) ⟨_, rfl, ⟨rfl, by first | exact (b01_t c6).symm | exact (b01_f c6).symm⟩⟩
  · refine v_iconst (v := 1) C dX5_hasBit_9 (by decide) ?_
    refine v_goto (tgt := 14) C dX5_hasBit_10 (by decide) ?_
    exact v_zret C hr dX5_hasBit_14 (by decide) (Nat.le_refl _) (Nat.le_refl _) ⟨_, rfl, ⟨rfl, by first | exact (b01_t c6).symm | exact (b01_f c6).symm⟩⟩
set_option maxHeartbeats 4000000 in
set_option maxRecDepth 100000 in
theorem c_X5_asNumber (l : Launch) (E : gE) (zw : va_W) (x : Int32) (hx : x = 0 ∨ x = 1) : CtI l yX5_asNumber wsX5_asNumber ({ frames := 0, cells := 0, slots := 0, locals := 0 }) E [.int x] zw (fun r w1 => zw = w1 ∧ r = x) 0 0 := by
  refine Ct.of (cc := cX5_asNumber) (nL := 1) (ret := (some .int)) (by decide) rfl (Nat.le_of_ble_eq_true rfl) ?_
  intro p e s m args below meth c C hr hnm
  refine v_eqlv (lv9 := [(0, .int x)]) rfl ?_
  refine v_iload_n C dX5_asNumber_0 rfl rfl ?_
  refine v_if_eq (tgt := 8) C dX5_asNumber_1 (by decide) (fun c1 => ?_) (fun c1 => ?_)
  · refine v_iconst (v := 0) C dX5_asNumber_8 (by decide) ?_
    exact v_iret C hr dX5_asNumber_9 (Nat.le_refl _) (Nat.le_refl _) ⟨_, rfl, ⟨rfl, by first | exact c1.symm | exact (hx.resolve_left c1).symm⟩⟩
  · refine v_iconst (v := 1) C dX5_asNumber_4 (by decide) ?_
    refine v_goto (tgt := 9) C dX5_asNumber_5 (by decide) ?_
    exact v_iret C hr dX5_asNumber_9 (Nat.le_refl _) (Nat.le_refl _) ⟨_, rfl, ⟨rfl, by first | exact c1.symm | exact (hx.resolve_left c1).symm⟩⟩
/-- the digits of some marks, all bits set -/
def dgs (mk : Int32) : Nat → Int32
  | 0 => 0
  | i + 1 => if (mk >>> (nI i &&& 31)) &&& 1 = 1 then dgs mk i ||| (7 <<< ((3 * nI i) &&& 31)) else dgs mk i
set_option maxHeartbeats 4000000 in
set_option maxRecDepth 100000 in
theorem lp_X5_digitsOf {p : Program} {l : Launch} {e : Env} {s : State} {m : MethodId} {args : Array Value} {below : List Frame} {meth : Method} {c : Code} {Q : State → Prop} {E : gE} {zw : va_W} (C : gC p s m args meth c E cX5_digitsOf 3 wsX5_digitsOf yX5_digitsOf.cls) {mk : Int32} (hK : V p l e ({ frames := 1, cells := 0, slots := 0, locals := 21 }) s m args below meth c E 3 zw 0 0 Q 33 [(0, .int mk), (1, .int (dgs mk 6)), (2, .int (nI 6))] []) : ∀ n i : Nat, i + n = 6 → V p l e ({ frames := 1, cells := 0, slots := 0, locals := 21 }) s m args below meth c E 3 zw 0 0 Q 4 [(0, .int mk), (1, .int (dgs mk i)), (2, .int (nI i))] [] := by
  intro n
  induction n with
  | zero =>
    intro i hi
    obtain rfl : i = 6 := by omega
    refine v_iload_n C dX5_digitsOf_4 rfl rfl ?_
    refine v_bipush (v := 6) C dX5_digitsOf_5 (by decide) ?_
    refine v_icmp_ge (tgt := 33) C dX5_digitsOf_7 (by decide) (fun c7 => ?_) (fun c7 => absurd (by rw [fa_le, ti_6, nI_toInt (by omega)]; omega) c7)
    exact hK
  | succ n ih =>
    intro i hi
    refine v_iload_n C dX5_digitsOf_4 rfl rfl ?_
    refine v_bipush (v := 6) C dX5_digitsOf_5 (by decide) ?_
    refine v_icmp_ge (tgt := 33) C dX5_digitsOf_7 (by decide) (fun c7 => absurd c7 (by rw [fa_le, ti_6, nI_toInt (by omega)]; omega)) (fun c7 => ?_)
    refine v_iload_n C dX5_digitsOf_10 rfl rfl ?_
    refine v_iload_n C dX5_digitsOf_11 rfl rfl ?_
    refine v_callSi C (c_X5_hasBit l E zw _ _) (va_cwS 2 C.1.2.2.2.2 gX5_digitsOf_X5_hasBit rfl rfl rfl (by decide +kernel) ⟨by decide, by decide⟩) rfl rfl (Nat.le_of_ble_eq_true rfl) dX5_digitsOf_12 ⟨Nat.le_of_ble_eq_true rfl, Nat.le_of_ble_eq_true rfl⟩ (fun r w1 hp => ?_)
    obtain ⟨rfl, rfl⟩ := hp
    refine v_if_eq (tgt := 27) C dX5_digitsOf_15 (by decide) (fun c15 => ?_) (fun c15 => ?_)
    · have c15 := b01_0 c15
      refine v_pick (lv9 := [(0, .int mk), (1, .int (dgs mk (i + 1))), (2, .int (nI i))]) ⟨rfl, by first | (rw [show dgs mk (i + 1) = _ from if_pos c15]; rfl) | (rw [show dgs mk (i + 1) = _ from if_neg c15]; rfl), rfl, trivial⟩ ?_
      refine v_iincN C dX5_digitsOf_27 rfl (by decide) rfl ?_
      refine v_goto (tgt := 4) C dX5_digitsOf_30 (by decide) ?_
      exact ih (i + 1) (by omega)
    · have c15 := b01_n c15
      refine v_iload_n C dX5_digitsOf_18 rfl rfl ?_
      refine v_bipush (v := 7) C dX5_digitsOf_19 (by decide) ?_
      refine v_iload_n C dX5_digitsOf_21 rfl rfl ?_
      refine v_callSi C (c_X5_atPlace l E zw _ _) (va_cwS 2 C.1.2.2.2.2 gX5_digitsOf_X5_atPlace rfl rfl rfl (by decide +kernel) ⟨by decide, by decide⟩) rfl rfl (Nat.le_of_ble_eq_true rfl) dX5_digitsOf_22 ⟨Nat.le_of_ble_eq_true rfl, Nat.le_of_ble_eq_true rfl⟩ (fun r w1 hp => ?_)
      obtain ⟨rfl, rfl⟩ := hp
      refine v_ior C dX5_digitsOf_25 ?_
      refine v_istore_n C dX5_digitsOf_26 rfl (by decide) rfl ?_
      refine v_pick (lv9 := [(0, .int mk), (1, .int (dgs mk (i + 1))), (2, .int (nI i))]) ⟨rfl, by first | (rw [show dgs mk (i + 1) = _ from if_pos c15]; rfl) | (rw [show dgs mk (i + 1) = _ from if_neg c15]; rfl), rfl, trivial⟩ ?_
      refine v_iincN C dX5_digitsOf_27 rfl (by decide) rfl ?_
      refine v_goto (tgt := 4) C dX5_digitsOf_30 (by decide) ?_
      exact ih (i + 1) (by omega)
set_option maxHeartbeats 4000000 in
set_option maxRecDepth 100000 in
theorem c_X5_digitsOf (l : Launch) (E : gE) (zw : va_W) (mk : Int32) : CtI l yX5_digitsOf wsX5_digitsOf ({ frames := 1, cells := 0, slots := 0, locals := 21 }) E [.int mk] zw (fun r w1 => zw = w1 ∧ r = dgs mk 6) 0 0 := by
  refine Ct.of (cc := cX5_digitsOf) (nL := 3) (ret := (some .int)) (by decide) rfl (Nat.le_of_ble_eq_true rfl) ?_
  intro p e s m args below meth c C hr hnm
  refine v_eqlv (lv9 := [(0, .int mk)]) rfl ?_
  refine v_iconst (v := 0) C dX5_digitsOf_0 (by decide) ?_
  refine v_istore_n C dX5_digitsOf_1 rfl (by decide) rfl ?_
  refine v_iconst (v := 0) C dX5_digitsOf_2 (by decide) ?_
  refine v_tov nI_0.symm ?_
  refine v_istore_n C dX5_digitsOf_3 rfl (by decide) rfl ?_
  refine lp_X5_digitsOf C ?_ 6 0 rfl
  refine v_iload_n C dX5_digitsOf_33 rfl rfl ?_
  exact v_iret C hr dX5_digitsOf_34 (Nat.le_refl _) (Nat.le_refl _) ⟨_, rfl, ⟨rfl, rfl⟩⟩
