theorem ixm6 (tt m : Nat) : nI tt * 6 + nI m = nI (6 * tt + m) := by rw [show (6 : Int32) = nI 6 from rfl, pk_mul, nI_add, Nat.mul_comm]
theorem inX4_isDropped_X4 : ∀ x ∈ wsX40, x ∈ wsX4_isDropped := by decide +kernel
theorem kwX4_isDropped_9 : Cond.fieldLink RX4 9 "SeriesMarks$Shortening" "droppedAt" "[I" ∈ wsX4_isDropped := by decide +kernel
theorem kwX4_isDropped_iniX5 : Cond.initialized RX5 ∈ wsX4_isDropped := by decide +kernel
theorem kwX4_isDropped_stX5_hasBit : Cond.static yX5_hasBit ∈ wsX4_isDropped := by decide +kernel
set_option maxHeartbeats 4000000 in
set_option maxRecDepth 100000 in
theorem c_X4_isDropped (l : Launch) (E : gE) (zw : va_W) {q q5 q6 a b5 b6 : Nat} {dr ch : Nat → Int32} (he : zw[q]? = some (a, .inr (5, [.ref b5, .ref b6]))) (h5 : zw[q5]? = some (b5, .inl (gI E, 200, .inl dr))) (h6 : zw[q6]? = some (b6, .inl (gI E, 1200, .inl ch))) (mk : Int32) {tt : Nat} (htt : tt ≤ 199) : CtI l yX4_isDropped wsX4_isDropped ({ frames := 1, cells := 0, slots := 0, locals := 21 }) E [.ref a, .int mk, .int (nI tt)] zw (fun r w1 => zw = w1 ∧ r = b01 ((dr tt >>> (mk &&& 31)) &&& 1 = 1)) 0 0 := by
  refine Ct.of (cc := cX4_isDropped) (nL := 3) (ret := (some .boolean)) (by decide) rfl (Nat.le_of_ble_eq_true rfl) ?_
  intro p e s m args below meth c C hr hnm
  refine v_eqlv (lv9 := [(0, .ref a), (1, .int mk), (2, .int (nI tt))]) rfl ?_
  refine v_aload_n C dX4_isDropped_0 rfl rfl ?_
  refine v_get C inX4_isDropped_X4 q he rfl 0 (by decide) kwX4_isDropped_9 rfl rfl dX4_isDropped_1 ?_
  refine v_iload_n C dX4_isDropped_4 rfl rfl ?_
  refine v_iald C q5 h5 (vp_in_nI (by omega) (by decide)) dX4_isDropped_5 ?_
  refine v_tov (congrArg dr (nI_clamp (show tt < 2 ^ 31 by omega))) ?_
  refine v_iload_n C dX4_isDropped_6 rfl rfl ?_
  refine v_callSNi C (c_X5_hasBit l E zw _ _) ⟨(va_cnB 2 C.1.2.2.2.2 gX4_isDropped_X5_hasBit_n25 rfl rfl rfl (C.2.2.1.2.2.2.1 (RX4, 25, yX5_hasBit) (by decide +kernel)) (C.1.2.2.2.2 _ kwX4_isDropped_iniX5) (by decide +kernel) ⟨by decide, by decide⟩), C.1.2.2.2.2 _ kwX4_isDropped_stX5_hasBit, trivial⟩ rfl rfl (Nat.le_of_ble_eq_true rfl) dX4_isDropped_7 ⟨Nat.le_of_ble_eq_true rfl, Nat.le_of_ble_eq_true rfl⟩ (fun r w1 hp => ?_)
  obtain ⟨rfl, rfl⟩ := hp
  exact v_zret C hr dX4_isDropped_10 (b01_or _) (Nat.le_refl _) (Nat.le_refl _) ⟨_, rfl, ⟨rfl, rfl⟩⟩
theorem inX4_setDropped_X4 : ∀ x ∈ wsX40, x ∈ wsX4_setDropped := by decide +kernel
theorem kwX4_setDropped_9 : Cond.fieldLink RX4 9 "SeriesMarks$Shortening" "droppedAt" "[I" ∈ wsX4_setDropped := by decide +kernel
set_option maxHeartbeats 4000000 in
set_option maxRecDepth 100000 in
theorem c_X4_setDropped (l : Launch) (E : gE) (zw : va_W) {q q5 q6 a b5 b6 : Nat} {dr ch : Nat → Int32} (he : zw[q]? = some (a, .inr (5, [.ref b5, .ref b6]))) (h5 : zw[q5]? = some (b5, .inl (gI E, 200, .inl dr))) (h6 : zw[q6]? = some (b6, .inl (gI E, 1200, .inl ch))) (mk is : Int32) {tt : Nat} (htt : tt ≤ 199) : CtU l yX4_setDropped wsX4_setDropped ({ frames := 0, cells := 0, slots := 0, locals := 0 }) E [.ref a, .int mk, .int is, .int (nI tt)] zw (fun w1 => w1[q5]? = some (b5, .inl (gI E, 200, .inl (upd dr tt (if is = 0 then dr tt &&& ((1 <<< (mk &&& 31)) ^^^ (-1)) else dr tt ||| (1 <<< (mk &&& 31)))))) ∧ oFr q5 zw w1) 0 0 := by
  refine Ct.of (cc := cX4_setDropped) (nL := 5) (ret := none) (by decide) rfl (Nat.le_of_ble_eq_true rfl) ?_
  intro p e s m args below meth c C hr hnm
  refine v_eqlv (lv9 := [(0, .ref a), (1, .int mk), (2, .int is), (3, .int (nI tt))]) rfl ?_
  refine v_iconst (v := 1) C dX4_setDropped_0 (by decide) ?_
  refine v_iload_n C dX4_setDropped_1 rfl rfl ?_
  refine v_ishl C dX4_setDropped_2 ?_
  refine v_istore C dX4_setDropped_3 (by decide) rfl ?_
  refine v_aload_n C dX4_setDropped_5 rfl rfl ?_
  refine v_get C inX4_setDropped_X4 q he rfl 0 (by decide) kwX4_setDropped_9 rfl rfl dX4_setDropped_6 ?_
  refine v_iload_n C dX4_setDropped_9 rfl rfl ?_
  refine v_iload_n C dX4_setDropped_10 rfl rfl ?_
  refine v_if_eq (tgt := 26) C dX4_setDropped_11 (by decide) (fun c11 => ?_) (fun c11 => ?_)
  · refine v_aload_n C dX4_setDropped_26 rfl rfl ?_
    refine v_get C inX4_setDropped_X4 q he rfl 0 (by decide) kwX4_setDropped_9 rfl rfl dX4_setDropped_27 ?_
    refine v_iload_n C dX4_setDropped_30 rfl rfl ?_
    refine v_iald C q5 h5 (vp_in_nI (by omega) (by decide)) dX4_setDropped_31 ?_
    refine v_tov (congrArg dr (nI_clamp (show tt < 2 ^ 31 by omega))) ?_
    refine v_iload C dX4_setDropped_32 rfl ?_
    refine v_iconst (v := (-1)) C dX4_setDropped_34 (by decide) ?_
    refine v_ixor C dX4_setDropped_35 ?_
    refine v_iand C dX4_setDropped_36 ?_
    refine vo_iast C q5 h5 (vp_in_nI (by omega) (by decide)) dX4_setDropped_37 (fun zw h5 hO1 => ?_)
    rw [nI_clamp (show tt < 2 ^ 31 by omega)] at h5
    refine v_at (pc9 := 38) rfl ?_
    exact v_vret C hr dX4_setDropped_38 (Nat.le_refl _) (Nat.le_refl _) ⟨rfl, ⟨by first | (rw [if_pos c11]; exact h5) | (rw [if_neg c11]; exact h5), hO1⟩⟩
  · refine v_aload_n C dX4_setDropped_14 rfl rfl ?_
    refine v_get C inX4_setDropped_X4 q he rfl 0 (by decide) kwX4_setDropped_9 rfl rfl dX4_setDropped_15 ?_
    refine v_iload_n C dX4_setDropped_18 rfl rfl ?_
    refine v_iald C q5 h5 (vp_in_nI (by omega) (by decide)) dX4_setDropped_19 ?_
    refine v_tov (congrArg dr (nI_clamp (show tt < 2 ^ 31 by omega))) ?_
    refine v_iload C dX4_setDropped_20 rfl ?_
    refine v_ior C dX4_setDropped_22 ?_
    refine v_goto (tgt := 37) C dX4_setDropped_23 (by decide) ?_
    refine vo_iast C q5 h5 (vp_in_nI (by omega) (by decide)) dX4_setDropped_37 (fun zw h5 hO1 => ?_)
    rw [nI_clamp (show tt < 2 ^ 31 by omega)] at h5
    exact v_vret C hr dX4_setDropped_38 (Nat.le_refl _) (Nat.le_refl _) ⟨rfl, ⟨by first | (rw [if_pos c11]; exact h5) | (rw [if_neg c11]; exact h5), hO1⟩⟩
theorem inX4_chiefOf_X4 : ∀ x ∈ wsX40, x ∈ wsX4_chiefOf := by decide +kernel
theorem kwX4_chiefOf_15 : Cond.fieldLink RX4 15 "SeriesMarks$Shortening" "chiefsAt" "[I" ∈ wsX4_chiefOf := by decide +kernel
theorem kwX4_chiefOf_iniX5 : Cond.initialized RX5 ∈ wsX4_chiefOf := by decide +kernel
theorem kwX4_chiefOf_stX5_digit : Cond.static yX5_digit ∈ wsX4_chiefOf := by decide +kernel
set_option maxHeartbeats 4000000 in
set_option maxRecDepth 100000 in
theorem c_X4_chiefOf (l : Launch) (E : gE) (zw : va_W) {q q5 q6 a b5 b6 : Nat} {dr ch : Nat → Int32} (he : zw[q]? = some (a, .inr (5, [.ref b5, .ref b6]))) (h5 : zw[q5]? = some (b5, .inl (gI E, 200, .inl dr))) (h6 : zw[q6]? = some (b6, .inl (gI E, 1200, .inl ch))) {mm : Nat} (hmm : mm < 6) (v : Int32) {tt : Nat} (htt : tt ≤ 199) : CtI l yX4_chiefOf wsX4_chiefOf ({ frames := 1, cells := 0, slots := 0, locals := 21 }) E [.ref a, .int (nI mm), .int v, .int (nI tt)] zw (fun r w1 => zw = w1 ∧ r = dgt (ch (6 * tt + mm)) v) 0 0 := by
  refine Ct.of (cc := cX4_chiefOf) (nL := 4) (ret := (some .int)) (by decide) rfl (Nat.le_of_ble_eq_true rfl) ?_
  intro p e s m args below meth c C hr hnm
  refine v_eqlv (lv9 := [(0, .ref a), (1, .int (nI mm)), (2, .int v), (3, .int (nI tt))]) rfl ?_
  refine v_aload_n C dX4_chiefOf_0 rfl rfl ?_
  refine v_get C inX4_chiefOf_X4 q he rfl 1 (by decide) kwX4_chiefOf_15 rfl rfl dX4_chiefOf_1 ?_
  refine v_iload_n C dX4_chiefOf_4 rfl rfl ?_
  refine v_bipush (v := 6) C dX4_chiefOf_5 (by decide) ?_
  refine v_imul C dX4_chiefOf_7 ?_
  refine v_iload_n C dX4_chiefOf_8 rfl rfl ?_
  refine v_iadd C dX4_chiefOf_9 ?_
  refine v_tov (ixm6 tt mm) ?_
  refine v_iald C q6 h6 (vp_in_nI (by omega) (by decide)) dX4_chiefOf_10 ?_
  refine v_tov (congrArg ch (nI_clamp (show 6 * tt + mm < 2 ^ 31 by omega))) ?_
  refine v_iload_n C dX4_chiefOf_11 rfl rfl ?_
  refine v_at (pc9 := 12) rfl ?_
  refine v_callSNi C (c_X5_digit l E zw _ _) ⟨(va_cnB 2 C.1.2.2.2.2 gX4_chiefOf_X5_digit_n29 rfl rfl rfl (C.2.2.1.2.2.2.1 (RX4, 29, yX5_digit) (by decide +kernel)) (C.1.2.2.2.2 _ kwX4_chiefOf_iniX5) (by decide +kernel) ⟨by decide, by decide⟩), C.1.2.2.2.2 _ kwX4_chiefOf_stX5_digit, trivial⟩ rfl rfl (Nat.le_of_ble_eq_true rfl) dX4_chiefOf_12 ⟨Nat.le_of_ble_eq_true rfl, Nat.le_of_ble_eq_true rfl⟩ (fun r w1 hp => ?_)
  obtain ⟨rfl, rfl⟩ := hp
  exact v_iret C hr dX4_chiefOf_15 (Nat.le_refl _) (Nat.le_refl _) ⟨_, rfl, ⟨rfl, rfl⟩⟩
/-- a name made short by the class's rows, mark by mark -/
def shC (dr ch : Nat → Int32) (x : Int32) (tt : Nat) : Nat → Int32
  | 0 => 0
  | m + 1 => if (dr tt >>> (nI m &&& 31)) &&& 1 = 1 then shC dr ch x tt m else shC dr ch x tt m ||| (dgt (ch (6 * tt + m)) (dgt x (nI m)) <<< ((3 * nI m) &&& 31))
theorem kwX4_shorten_iniX5 : Cond.initialized RX5 ∈ wsX4_shorten := by decide +kernel
theorem kwX4_shorten_stX5_digit : Cond.static yX5_digit ∈ wsX4_shorten := by decide +kernel
theorem kwX4_shorten_stX5_atPlace : Cond.static yX5_atPlace ∈ wsX4_shorten := by decide +kernel
set_option maxHeartbeats 4000000 in
set_option maxRecDepth 100000 in
theorem lp_X4_shorten {p : Program} {l : Launch} {e : Env} {s : State} {m : MethodId} {args : Array Value} {below : List Frame} {meth : Method} {c : Code} {Q : State → Prop} {E : gE} {zw : va_W} (C : gC p s m args meth c E cX4_shorten 5 wsX4_shorten yX4_shorten.cls) {q q5 q6 a b5 b6 : Nat} {dr ch : Nat → Int32} (he : zw[q]? = some (a, .inr (5, [.ref b5, .ref b6]))) (h5 : zw[q5]? = some (b5, .inl (gI E, 200, .inl dr))) (h6 : zw[q6]? = some (b6, .inl (gI E, 1200, .inl ch))) {x : Int32} {tt : Nat} (htt : tt ≤ 199) (hK : V p l e ({ frames := 2, cells := 0, slots := 0, locals := 44 }) s m args below meth c E 5 zw 0 0 Q 49 [(0, .ref a), (1, .int x), (2, .int (nI tt)), (3, .int (shC dr ch x tt 6)), (4, .int (nI 6))] []) : ∀ n i : Nat, i + n = 6 → V p l e ({ frames := 2, cells := 0, slots := 0, locals := 44 }) s m args below meth c E 5 zw 0 0 Q 5 [(0, .ref a), (1, .int x), (2, .int (nI tt)), (3, .int (shC dr ch x tt i)), (4, .int (nI i))] [] := by
  intro n
  induction n with
  | zero =>
    intro i hi
    obtain rfl : i = 6 := by omega
    refine v_iload C dX4_shorten_5 rfl ?_
    refine v_bipush (v := 6) C dX4_shorten_7 (by decide) ?_
    refine v_icmp_ge (tgt := 49) C dX4_shorten_9 (by decide) (fun c9 => ?_) (fun c9 => absurd (by rw [fa_le, ti_6, nI_toInt (by omega)]; omega) c9)
    exact hK
  | succ n ih =>
    intro i hi
    refine v_iload C dX4_shorten_5 rfl ?_
    refine v_bipush (v := 6) C dX4_shorten_7 (by decide) ?_
    refine v_icmp_ge (tgt := 49) C dX4_shorten_9 (by decide) (fun c9 => absurd c9 (by rw [fa_le, ti_6, nI_toInt (by omega)]; omega)) (fun c9 => ?_)
    refine v_aload_n C dX4_shorten_12 rfl rfl ?_
    refine v_iload C dX4_shorten_13 rfl ?_
    refine v_iload_n C dX4_shorten_15 rfl rfl ?_
    refine v_callVi C (c_X4_isDropped l E zw he h5 h6 _ htt) (cwV 2 C.1.2.2.2.2 gX4_shorten_X4_isDropped rfl rfl rfl (by decide +kernel) ⟨by decide, by decide⟩) q 5 he rfl rfl rfl (Nat.le_of_ble_eq_true rfl) dX4_shorten_16 ⟨Nat.le_of_ble_eq_true rfl, Nat.le_of_ble_eq_true rfl⟩ (fun r w1 hp => ?_)
    obtain ⟨rfl, hr9⟩ := hp
    rw [hr9]
    clear hr9
    refine v_if_ne (tgt := 43) C dX4_shorten_19 (by decide) (fun c19 => ?_) (fun c19 => ?_)
    · have c19 := b01_n c19
      refine v_pick (lv9 := [(0, .ref a), (1, .int x), (2, .int (nI tt)), (3, .int (shC dr ch x tt (i + 1))), (4, .int (nI i))]) ⟨rfl, rfl, rfl, by first | (rw [show shC dr ch x tt (i + 1) = _ from if_pos c19]; rfl) | (rw [show shC dr ch x tt (i + 1) = _ from if_neg c19]; rfl), rfl, trivial⟩ ?_
      refine v_iincN C dX4_shorten_43 rfl (by decide) rfl ?_
      refine v_goto (tgt := 5) C dX4_shorten_46 (by decide) ?_
      exact ih (i + 1) (by omega)
    · have c19 := b01_0 c19
      refine v_iload_n C dX4_shorten_22 rfl rfl ?_
      refine v_aload_n C dX4_shorten_23 rfl rfl ?_
      refine v_iload C dX4_shorten_24 rfl ?_
      refine v_iload_n C dX4_shorten_26 rfl rfl ?_
      refine v_iload C dX4_shorten_27 rfl ?_
      refine v_callSNi C (c_X5_digit l E zw _ _) ⟨(va_cnB 2 C.1.2.2.2.2 gX4_shorten_X5_digit_n29 rfl rfl rfl (C.2.2.1.2.2.2.1 (RX4, 29, yX5_digit) (by decide +kernel)) (C.1.2.2.2.2 _ kwX4_shorten_iniX5) (by decide +kernel) ⟨by decide, by decide⟩), C.1.2.2.2.2 _ kwX4_shorten_stX5_digit, trivial⟩ rfl rfl (Nat.le_of_ble_eq_true rfl) dX4_shorten_29 ⟨Nat.le_of_ble_eq_true rfl, Nat.le_of_ble_eq_true rfl⟩ (fun r w1 hp => ?_)
      obtain ⟨rfl, rfl⟩ := hp
      refine v_iload_n C dX4_shorten_32 rfl rfl ?_
      refine v_callVi C (c_X4_chiefOf l E zw he h5 h6 (mm := i) (by omega) _ htt) (cwV 3 C.1.2.2.2.2 gX4_shorten_X4_chiefOf rfl rfl rfl (by decide +kernel) ⟨by decide, by decide⟩) q 5 he rfl rfl rfl (Nat.le_of_ble_eq_true rfl) dX4_shorten_33 ⟨Nat.le_of_ble_eq_true rfl, Nat.le_of_ble_eq_true rfl⟩ (fun r w1 hp => ?_)
      obtain ⟨rfl, hr9⟩ := hp
      rw [hr9]
      clear hr9
      refine v_iload C dX4_shorten_36 rfl ?_
      refine v_at (pc9 := 38) rfl ?_
      refine v_callSNi C (c_X5_atPlace l E zw _ _) ⟨(va_cnB 2 C.1.2.2.2.2 gX4_shorten_X5_atPlace_n42 rfl rfl rfl (C.2.2.1.2.2.2.1 (RX4, 42, yX5_atPlace) (by decide +kernel)) (C.1.2.2.2.2 _ kwX4_shorten_iniX5) (by decide +kernel) ⟨by decide, by decide⟩), C.1.2.2.2.2 _ kwX4_shorten_stX5_atPlace, trivial⟩ rfl rfl (Nat.le_of_ble_eq_true rfl) dX4_shorten_38 ⟨Nat.le_of_ble_eq_true rfl, Nat.le_of_ble_eq_true rfl⟩ (fun r w1 hp => ?_)
      obtain ⟨rfl, rfl⟩ := hp
      refine v_ior C dX4_shorten_41 ?_
      refine v_istore_n C dX4_shorten_42 rfl (by decide) rfl ?_
      refine v_pick (lv9 := [(0, .ref a), (1, .int x), (2, .int (nI tt)), (3, .int (shC dr ch x tt (i + 1))), (4, .int (nI i))]) ⟨rfl, rfl, rfl, by first | (rw [show shC dr ch x tt (i + 1) = _ from if_pos c19]; rfl) | (rw [show shC dr ch x tt (i + 1) = _ from if_neg c19]; rfl), rfl, trivial⟩ ?_
      refine v_iincN C dX4_shorten_43 rfl (by decide) rfl ?_
      refine v_goto (tgt := 5) C dX4_shorten_46 (by decide) ?_
      exact ih (i + 1) (by omega)
set_option maxHeartbeats 4000000 in
set_option maxRecDepth 100000 in
theorem c_X4_shorten (l : Launch) (E : gE) (zw : va_W) {q q5 q6 a b5 b6 : Nat} {dr ch : Nat → Int32} (he : zw[q]? = some (a, .inr (5, [.ref b5, .ref b6]))) (h5 : zw[q5]? = some (b5, .inl (gI E, 200, .inl dr))) (h6 : zw[q6]? = some (b6, .inl (gI E, 1200, .inl ch))) (x : Int32) {tt : Nat} (htt : tt ≤ 199) : CtI l yX4_shorten wsX4_shorten ({ frames := 2, cells := 0, slots := 0, locals := 44 }) E [.ref a, .int x, .int (nI tt)] zw (fun r w1 => zw = w1 ∧ r = shC dr ch x tt 6) 0 0 := by
  refine Ct.of (cc := cX4_shorten) (nL := 5) (ret := (some .int)) (by decide) rfl (Nat.le_of_ble_eq_true rfl) ?_
  intro p e s m args below meth c C hr hnm
  refine v_eqlv (lv9 := [(0, .ref a), (1, .int x), (2, .int (nI tt))]) rfl ?_
  refine v_iconst (v := 0) C dX4_shorten_0 (by decide) ?_
  refine v_istore_n C dX4_shorten_1 rfl (by decide) rfl ?_
  refine v_iconst (v := 0) C dX4_shorten_2 (by decide) ?_
  refine v_tov nI_0.symm ?_
  refine v_istore C dX4_shorten_3 (by decide) rfl ?_
  refine lp_X4_shorten C he h5 h6 htt ?_ 6 0 rfl
  refine v_iload_n C dX4_shorten_49 rfl rfl ?_
  exact v_iret C hr dX4_shorten_50 (Nat.le_refl _) (Nat.le_refl _) ⟨_, rfl, ⟨rfl, rfl⟩⟩
/-- whether a mark among mk isn't as at first, from mark i on -/
def afC (ch : Nat → Int32) (mk : Int32) (tt : Nat) : Nat → Nat → Int32
  | 0, _ => 0
  | n + 1, i => if (mk >>> (nI i &&& 31)) &&& 1 = 1 ∧ ¬ ch (6 * tt + i) = 16434824 then 1 else afC ch mk tt n (i + 1)
theorem kwX4_isAnyFolded_iniX5 : Cond.initialized RX5 ∈ wsX4_isAnyFolded := by decide +kernel
theorem kwX4_isAnyFolded_stX5_hasBit : Cond.static yX5_hasBit ∈ wsX4_isAnyFolded := by decide +kernel
theorem inX4_isAnyFolded_X4 : ∀ x ∈ wsX40, x ∈ wsX4_isAnyFolded := by decide +kernel
theorem kwX4_isAnyFolded_15 : Cond.fieldLink RX4 15 "SeriesMarks$Shortening" "chiefsAt" "[I" ∈ wsX4_isAnyFolded := by decide +kernel
theorem kwX4_isAnyFolded_c18 : Cond.constant RX4 18 (16434824) ∈ wsX4_isAnyFolded := by decide +kernel
set_option maxHeartbeats 4000000 in
set_option maxRecDepth 100000 in
theorem lp_X4_isAnyFolded {p : Program} {l : Launch} {e : Env} {s : State} {m : MethodId} {args : Array Value} {below : List Frame} {meth : Method} {c : Code} {E : gE} {zw : va_W} (C : gC p s m args meth c E cX4_isAnyFolded 4 wsX4_isAnyFolded yX4_isAnyFolded.cls) (hr : meth.sig.returnType = some .boolean) {q q5 q6 a b5 b6 : Nat} {dr ch : Nat → Int32} (he : zw[q]? = some (a, .inr (5, [.ref b5, .ref b6]))) (h5 : zw[q5]? = some (b5, .inl (gI E, 200, .inl dr))) (h6 : zw[q6]? = some (b6, .inl (gI E, 1200, .inl ch))) {mk : Int32} {tt : Nat} (htt : tt ≤ 199) (res : Int32) : ∀ n i : Nat, i + n = 6 → afC ch mk tt n i = res → V p l e ({ frames := 1, cells := 0, slots := 0, locals := 21 }) s m args below meth c E 4 zw 0 0 (MQ below (gQ E (fun v9 w1 => ∃ r : Int32, v9 = some (.int r) ∧ (zw = w1 ∧ r = res))) args s 0 0 (gA E)) 2 [(0, .ref a), (1, .int mk), (2, .int (nI tt)), (3, .int (nI i))] [] := by
  intro n
  induction n with
  | zero =>
    intro i hi hR
    obtain rfl : i = 6 := by omega
    refine v_iload_n C dX4_isAnyFolded_2 rfl rfl ?_
    refine v_bipush (v := 6) C dX4_isAnyFolded_3 (by decide) ?_
    refine v_icmp_ge (tgt := 40) C dX4_isAnyFolded_5 (by decide) (fun c5 => ?_) (fun c5 => absurd (by rw [fa_le, ti_6, nI_toInt (by omega)]; omega) c5)
    refine v_iconst (v := 0) C dX4_isAnyFolded_40 (by decide) ?_
    exact v_zret C hr dX4_isAnyFolded_41 (by decide) (Nat.le_refl _) (Nat.le_refl _) ⟨_, rfl, ⟨rfl, hR⟩⟩
  | succ n ih =>
    intro i hi hR
    refine v_iload_n C dX4_isAnyFolded_2 rfl rfl ?_
    refine v_bipush (v := 6) C dX4_isAnyFolded_3 (by decide) ?_
    refine v_icmp_ge (tgt := 40) C dX4_isAnyFolded_5 (by decide) (fun c5 => absurd c5 (by rw [fa_le, ti_6, nI_toInt (by omega)]; omega)) (fun c5 => ?_)
    refine v_iload_n C dX4_isAnyFolded_8 rfl rfl ?_
    refine v_iload_n C dX4_isAnyFolded_9 rfl rfl ?_
    refine v_callSNi C (c_X5_hasBit l E zw _ _) ⟨(va_cnB 2 C.1.2.2.2.2 gX4_isAnyFolded_X5_hasBit_n25 rfl rfl rfl (C.2.2.1.2.2.2.1 (RX4, 25, yX5_hasBit) (by decide +kernel)) (C.1.2.2.2.2 _ kwX4_isAnyFolded_iniX5) (by decide +kernel) ⟨by decide, by decide⟩), C.1.2.2.2.2 _ kwX4_isAnyFolded_stX5_hasBit, trivial⟩ rfl rfl (Nat.le_of_ble_eq_true rfl) dX4_isAnyFolded_10 ⟨Nat.le_of_ble_eq_true rfl, Nat.le_of_ble_eq_true rfl⟩ (fun r w1 hp => ?_)
    obtain ⟨rfl, hr9⟩ := hp
    rw [hr9]
    clear hr9
    refine v_if_eq (tgt := 34) C dX4_isAnyFolded_13 (by decide) (fun c13 => ?_) (fun c13 => ?_)
    · have c13 := b01_0 c13
      refine v_iincN C dX4_isAnyFolded_34 rfl (by decide) rfl ?_
      refine v_goto (tgt := 2) C dX4_isAnyFolded_37 (by decide) ?_
      exact ih (i + 1) (by omega) (by rw [← hR]; first | exact (if_neg (fun h => c13 h.1)).symm | exact (if_neg (fun h => h.2 c29)).symm)
    · have c13 := b01_n c13
      refine v_aload_n C dX4_isAnyFolded_16 rfl rfl ?_
      refine v_get C inX4_isAnyFolded_X4 q he rfl 1 (by decide) kwX4_isAnyFolded_15 rfl rfl dX4_isAnyFolded_17 ?_
      refine v_iload_n C dX4_isAnyFolded_20 rfl rfl ?_
      refine v_bipush (v := 6) C dX4_isAnyFolded_21 (by decide) ?_
      refine v_imul C dX4_isAnyFolded_23 ?_
      refine v_iload_n C dX4_isAnyFolded_24 rfl rfl ?_
      refine v_iadd C dX4_isAnyFolded_25 ?_
      refine v_tov (ixm6 tt i) ?_
      refine v_iald C q6 h6 (vp_in_nI (by omega) (by decide)) dX4_isAnyFolded_26 ?_
      refine v_tov (congrArg ch (nI_clamp (show 6 * tt + i < 2 ^ 31 by omega))) ?_
      refine v_ldc C kwX4_isAnyFolded_c18 dX4_isAnyFolded_27 ?_
      refine v_at (pc9 := 29) rfl ?_
      refine v_icmp_eq (tgt := 34) C dX4_isAnyFolded_29 (by decide) (fun c29 => ?_) (fun c29 => ?_)
      · refine v_iincN C dX4_isAnyFolded_34 rfl (by decide) rfl ?_
        refine v_goto (tgt := 2) C dX4_isAnyFolded_37 (by decide) ?_
        exact ih (i + 1) (by omega) (by rw [← hR]; first | exact (if_neg (fun h => c13 h.1)).symm | exact (if_neg (fun h => h.2 c29)).symm)
      · refine v_iconst (v := 1) C dX4_isAnyFolded_32 (by decide) ?_
        exact v_zret C hr dX4_isAnyFolded_33 (by decide) (Nat.le_refl _) (Nat.le_refl _) ⟨_, rfl, ⟨rfl, by rw [← hR]; exact (if_pos ⟨c13, c29⟩).symm⟩⟩
set_option maxHeartbeats 4000000 in
set_option maxRecDepth 100000 in
theorem c_X4_isAnyFolded (l : Launch) (E : gE) (zw : va_W) {q q5 q6 a b5 b6 : Nat} {dr ch : Nat → Int32} (he : zw[q]? = some (a, .inr (5, [.ref b5, .ref b6]))) (h5 : zw[q5]? = some (b5, .inl (gI E, 200, .inl dr))) (h6 : zw[q6]? = some (b6, .inl (gI E, 1200, .inl ch))) (mk : Int32) {tt : Nat} (htt : tt ≤ 199) : CtI l yX4_isAnyFolded wsX4_isAnyFolded ({ frames := 1, cells := 0, slots := 0, locals := 21 }) E [.ref a, .int mk, .int (nI tt)] zw (fun r w1 => zw = w1 ∧ r = afC ch mk tt 6 0) 0 0 := by
  refine Ct.of (cc := cX4_isAnyFolded) (nL := 4) (ret := (some .boolean)) (by decide) rfl (Nat.le_of_ble_eq_true rfl) ?_
  intro p e s m args below meth c C hr hnm
  refine v_eqlv (lv9 := [(0, .ref a), (1, .int mk), (2, .int (nI tt))]) rfl ?_
  refine v_iconst (v := 0) C dX4_isAnyFolded_0 (by decide) ?_
  refine v_tov nI_0.symm ?_
  refine v_istore_n C dX4_isAnyFolded_1 rfl (by decide) rfl ?_
  exact lp_X4_isAnyFolded C hr he h5 h6 htt _ 6 0 rfl rfl
/-- the chiefs of a mark when two are put together, value by value -/
def ptC (c0 x y z : Int32) : Nat → Int32
  | 0 => 0
  | v + 1 => ptC c0 x y z v ||| ((if dgt c0 (nI v) = x ∨ dgt c0 (nI v) = y then z else dgt c0 (nI v)) <<< ((3 * nI v) &&& 31))
theorem kwX4_putTogether_iniX5 : Cond.initialized RX5 ∈ wsX4_putTogether := by decide +kernel
theorem kwX4_putTogether_stX5_atPlace : Cond.static yX5_atPlace ∈ wsX4_putTogether := by decide +kernel
set_option maxHeartbeats 4000000 in
set_option maxRecDepth 100000 in
theorem lp_X4_putTogether {p : Program} {l : Launch} {e : Env} {s : State} {m : MethodId} {args : Array Value} {below : List Frame} {meth : Method} {c : Code} {Q : State → Prop} {E : gE} {zw : va_W} (C : gC p s m args meth c E cX4_putTogether 12 wsX4_putTogether yX4_putTogether.cls) {q q5 q6 a b5 b6 : Nat} {dr ch : Nat → Int32} (he : zw[q]? = some (a, .inr (5, [.ref b5, .ref b6]))) (h5 : zw[q5]? = some (b5, .inl (gI E, 200, .inl dr))) (h6 : zw[q6]? = some (b6, .inl (gI E, 1200, .inl ch))) {mm : Nat} (hmm : mm < 6) {p2 p3 X Y Z : Int32} {tt : Nat} (htt : tt ≤ 199) (hK : V p l e ({ frames := 2, cells := 0, slots := 0, locals := 44 }) s m args below meth c E 12 zw 0 0 Q 102 [(0, .ref a), (1, .int (nI mm)), (2, .int p2), (3, .int p3), (4, .int (nI tt)), (5, .int X), (6, .int Y), (7, .int Z), (8, .int (ptC (ch (6 * tt + mm)) X Y Z 8)), (9, .int (nI 8))] []) : ∀ n i : Nat, i + n = 8 → V p l e ({ frames := 2, cells := 0, slots := 0, locals := 44 }) s m args below meth c E 12 zw 0 0 Q 35 [(0, .ref a), (1, .int (nI mm)), (2, .int p2), (3, .int p3), (4, .int (nI tt)), (5, .int X), (6, .int Y), (7, .int Z), (8, .int (ptC (ch (6 * tt + mm)) X Y Z i)), (9, .int (nI i))] [] := by
  intro n
  induction n with
  | zero =>
    intro i hi
    obtain rfl : i = 8 := by omega
    refine v_iload C dX4_putTogether_35 rfl ?_
    refine v_bipush (v := 8) C dX4_putTogether_37 (by decide) ?_
    refine v_icmp_ge (tgt := 102) C dX4_putTogether_39 (by decide) (fun c39 => ?_) (fun c39 => absurd (by rw [fa_le, ti_8, nI_toInt (by omega)]; omega) c39)
    exact hK
  | succ n ih =>
    intro i hi
    refine v_iload C dX4_putTogether_35 rfl ?_
    refine v_bipush (v := 8) C dX4_putTogether_37 (by decide) ?_
    refine v_icmp_ge (tgt := 102) C dX4_putTogether_39 (by decide) (fun c39 => absurd c39 (by rw [fa_le, ti_8, nI_toInt (by omega)]; omega)) (fun c39 => ?_)
    refine v_aload_n C dX4_putTogether_42 rfl rfl ?_
    refine v_iload_n C dX4_putTogether_43 rfl rfl ?_
    refine v_iload C dX4_putTogether_44 rfl ?_
    refine v_iload C dX4_putTogether_46 rfl ?_
    refine v_callVi C (c_X4_chiefOf l E zw he h5 h6 hmm _ htt) (cwV 3 C.1.2.2.2.2 gX4_putTogether_X4_chiefOf rfl rfl rfl (by decide +kernel) ⟨by decide, by decide⟩) q 5 he rfl rfl rfl (Nat.le_of_ble_eq_true rfl) dX4_putTogether_48 ⟨Nat.le_of_ble_eq_true rfl, Nat.le_of_ble_eq_true rfl⟩ (fun r w1 hp => ?_)
    obtain ⟨rfl, hr9⟩ := hp
    rw [hr9]
    clear hr9
    refine v_istore C dX4_putTogether_51 (by decide) rfl ?_
    refine v_at (pc9 := 53) rfl ?_
    refine v_iload C dX4_putTogether_53 rfl ?_
    refine v_iload C dX4_putTogether_55 rfl ?_
    refine v_icmp_eq (tgt := 67) C dX4_putTogether_57 (by decide) (fun c57 => ?_) (fun c57 => ?_)
    · have hj : dgt (ch (6 * tt + mm)) (nI i) = X ∨ dgt (ch (6 * tt + mm)) (nI i) = Y := Or.inl c57
      refine v_iconst (v := 1) C dX4_putTogether_67 (by decide) ?_
      refine v_goto (tgt := 72) C dX4_putTogether_68 (by decide) ?_
      refine v_istore C dX4_putTogether_72 (by decide) rfl ?_
      refine v_iload C dX4_putTogether_74 rfl ?_
      refine v_iload C dX4_putTogether_76 rfl ?_
      refine v_if_eq (tgt := 86) C dX4_putTogether_78 (by decide) (fun c78 => absurd c78 (by decide)) (fun c78 => ?_)
      refine v_iload C dX4_putTogether_81 rfl ?_
      refine v_goto (tgt := 88) C dX4_putTogether_83 (by decide) ?_
      refine v_tov (y := if dgt (ch (6 * tt + mm)) (nI i) = X ∨ dgt (ch (6 * tt + mm)) (nI i) = Y then Z else dgt (ch (6 * tt + mm)) (nI i)) (by first | (rw [if_pos hj]; done) | (rw [if_neg hj]; done)) ?_
      refine v_iload C dX4_putTogether_88 rfl ?_
      refine v_callSNi C (c_X5_atPlace l E zw _ _) ⟨(va_cnB 2 C.1.2.2.2.2 gX4_putTogether_X5_atPlace_n42 rfl rfl rfl (C.2.2.1.2.2.2.1 (RX4, 42, yX5_atPlace) (by decide +kernel)) (C.1.2.2.2.2 _ kwX4_putTogether_iniX5) (by decide +kernel) ⟨by decide, by decide⟩), C.1.2.2.2.2 _ kwX4_putTogether_stX5_atPlace, trivial⟩ rfl rfl (Nat.le_of_ble_eq_true rfl) dX4_putTogether_90 ⟨Nat.le_of_ble_eq_true rfl, Nat.le_of_ble_eq_true rfl⟩ (fun r w1 hp => ?_)
      obtain ⟨rfl, rfl⟩ := hp
      refine v_ior C dX4_putTogether_93 ?_
      refine v_istore C dX4_putTogether_94 (by decide) rfl ?_
      refine v_pick (lv9 := [(0, .ref a), (1, .int (nI mm)), (2, .int p2), (3, .int p3), (4, .int (nI tt)), (5, .int X), (6, .int Y), (7, .int Z), (8, .int (ptC (ch (6 * tt + mm)) X Y Z (i + 1))), (9, .int (nI i))]) ⟨rfl, rfl, rfl, rfl, rfl, rfl, rfl, rfl, rfl, rfl, trivial⟩ ?_
      refine v_iincN C dX4_putTogether_96 rfl (by decide) rfl ?_
      refine v_goto (tgt := 35) C dX4_putTogether_99 (by decide) ?_
      exact ih (i + 1) (by omega)
    · refine v_iload C dX4_putTogether_60 rfl ?_
      refine v_iload C dX4_putTogether_62 rfl ?_
      refine v_icmp_ne (tgt := 71) C dX4_putTogether_64 (by decide) (fun c64 => ?_) (fun c64 => ?_)
      · have hj : ¬ (dgt (ch (6 * tt + mm)) (nI i) = X ∨ dgt (ch (6 * tt + mm)) (nI i) = Y) := fun h => h.elim c57 c64
        refine v_iconst (v := 0) C dX4_putTogether_71 (by decide) ?_
        refine v_istore C dX4_putTogether_72 (by decide) rfl ?_
        refine v_iload C dX4_putTogether_74 rfl ?_
        refine v_iload C dX4_putTogether_76 rfl ?_
        refine v_if_eq (tgt := 86) C dX4_putTogether_78 (by decide) (fun c78 => ?_) (fun c78 => absurd rfl c78)
        refine v_iload C dX4_putTogether_86 rfl ?_
        refine v_tov (y := if dgt (ch (6 * tt + mm)) (nI i) = X ∨ dgt (ch (6 * tt + mm)) (nI i) = Y then Z else dgt (ch (6 * tt + mm)) (nI i)) (by first | (rw [if_pos hj]; done) | (rw [if_neg hj]; done)) ?_
        refine v_iload C dX4_putTogether_88 rfl ?_
        refine v_callSNi C (c_X5_atPlace l E zw _ _) ⟨(va_cnB 2 C.1.2.2.2.2 gX4_putTogether_X5_atPlace_n42 rfl rfl rfl (C.2.2.1.2.2.2.1 (RX4, 42, yX5_atPlace) (by decide +kernel)) (C.1.2.2.2.2 _ kwX4_putTogether_iniX5) (by decide +kernel) ⟨by decide, by decide⟩), C.1.2.2.2.2 _ kwX4_putTogether_stX5_atPlace, trivial⟩ rfl rfl (Nat.le_of_ble_eq_true rfl) dX4_putTogether_90 ⟨Nat.le_of_ble_eq_true rfl, Nat.le_of_ble_eq_true rfl⟩ (fun r w1 hp => ?_)
        obtain ⟨rfl, rfl⟩ := hp
        refine v_ior C dX4_putTogether_93 ?_
        refine v_istore C dX4_putTogether_94 (by decide) rfl ?_
        refine v_pick (lv9 := [(0, .ref a), (1, .int (nI mm)), (2, .int p2), (3, .int p3), (4, .int (nI tt)), (5, .int X), (6, .int Y), (7, .int Z), (8, .int (ptC (ch (6 * tt + mm)) X Y Z (i + 1))), (9, .int (nI i))]) ⟨rfl, rfl, rfl, rfl, rfl, rfl, rfl, rfl, rfl, rfl, trivial⟩ ?_
        refine v_iincN C dX4_putTogether_96 rfl (by decide) rfl ?_
        refine v_goto (tgt := 35) C dX4_putTogether_99 (by decide) ?_
        exact ih (i + 1) (by omega)
      · have hj : dgt (ch (6 * tt + mm)) (nI i) = X ∨ dgt (ch (6 * tt + mm)) (nI i) = Y := Or.inr c64
        refine v_iconst (v := 1) C dX4_putTogether_67 (by decide) ?_
        refine v_goto (tgt := 72) C dX4_putTogether_68 (by decide) ?_
        refine v_istore C dX4_putTogether_72 (by decide) rfl ?_
        refine v_iload C dX4_putTogether_74 rfl ?_
        refine v_iload C dX4_putTogether_76 rfl ?_
        refine v_if_eq (tgt := 86) C dX4_putTogether_78 (by decide) (fun c78 => absurd c78 (by decide)) (fun c78 => ?_)
        refine v_iload C dX4_putTogether_81 rfl ?_
        refine v_goto (tgt := 88) C dX4_putTogether_83 (by decide) ?_
        refine v_tov (y := if dgt (ch (6 * tt + mm)) (nI i) = X ∨ dgt (ch (6 * tt + mm)) (nI i) = Y then Z else dgt (ch (6 * tt + mm)) (nI i)) (by first | (rw [if_pos hj]; done) | (rw [if_neg hj]; done)) ?_
        refine v_iload C dX4_putTogether_88 rfl ?_
        refine v_callSNi C (c_X5_atPlace l E zw _ _) ⟨(va_cnB 2 C.1.2.2.2.2 gX4_putTogether_X5_atPlace_n42 rfl rfl rfl (C.2.2.1.2.2.2.1 (RX4, 42, yX5_atPlace) (by decide +kernel)) (C.1.2.2.2.2 _ kwX4_putTogether_iniX5) (by decide +kernel) ⟨by decide, by decide⟩), C.1.2.2.2.2 _ kwX4_putTogether_stX5_atPlace, trivial⟩ rfl rfl (Nat.le_of_ble_eq_true rfl) dX4_putTogether_90 ⟨Nat.le_of_ble_eq_true rfl, Nat.le_of_ble_eq_true rfl⟩ (fun r w1 hp => ?_)
        obtain ⟨rfl, rfl⟩ := hp
        refine v_ior C dX4_putTogether_93 ?_
        refine v_istore C dX4_putTogether_94 (by decide) rfl ?_
        refine v_pick (lv9 := [(0, .ref a), (1, .int (nI mm)), (2, .int p2), (3, .int p3), (4, .int (nI tt)), (5, .int X), (6, .int Y), (7, .int Z), (8, .int (ptC (ch (6 * tt + mm)) X Y Z (i + 1))), (9, .int (nI i))]) ⟨rfl, rfl, rfl, rfl, rfl, rfl, rfl, rfl, rfl, rfl, trivial⟩ ?_
        refine v_iincN C dX4_putTogether_96 rfl (by decide) rfl ?_
        refine v_goto (tgt := 35) C dX4_putTogether_99 (by decide) ?_
        exact ih (i + 1) (by omega)
theorem kwX4_putTogether_mn : Cond.methodLink RX4 37 Lib.Math.min.name ∈ wsX4_putTogether := by decide +kernel
theorem kwX4_putTogether_ms : Cond.static Lib.Math.min.name ∈ wsX4_putTogether := by decide +kernel
theorem kwX4_putTogether_mi : Cond.initialized "java/lang/Math" ∈ wsX4_putTogether := by decide +kernel
theorem kwX4_putTogether_mc : Cond.code Lib.Math.min.name Lib.Math.min.code 2 (some .int) ∈ wsX4_putTogether := by decide +kernel
theorem inX4_putTogether_X4 : ∀ x ∈ wsX40, x ∈ wsX4_putTogether := by decide +kernel
theorem kwX4_putTogether_15 : Cond.fieldLink RX4 15 "SeriesMarks$Shortening" "chiefsAt" "[I" ∈ wsX4_putTogether := by decide +kernel
set_option maxHeartbeats 4000000 in
set_option maxRecDepth 100000 in
theorem c_X4_putTogether (l : Launch) (E : gE) (zw : va_W) {q q5 q6 a b5 b6 : Nat} {dr ch : Nat → Int32} (he : zw[q]? = some (a, .inr (5, [.ref b5, .ref b6]))) (h5 : zw[q5]? = some (b5, .inl (gI E, 200, .inl dr))) (h6 : zw[q6]? = some (b6, .inl (gI E, 1200, .inl ch))) {mm : Nat} (hmm : mm < 6) (p2 p3 : Int32) {tt : Nat} (htt : tt ≤ 199) : CtI l yX4_putTogether wsX4_putTogether ({ frames := 2, cells := 0, slots := 0, locals := 44 }) E [.ref a, .int (nI mm), .int p2, .int p3, .int (nI tt)] zw (fun r w1 => r = (if (dgt (ch (6 * tt + mm)) p3) < (dgt (ch (6 * tt + mm)) p2) then (dgt (ch (6 * tt + mm)) p3) else (dgt (ch (6 * tt + mm)) p2)) ∧ w1[q6]? = some (b6, .inl (gI E, 1200, .inl (upd ch (6 * tt + mm) (ptC (ch (6 * tt + mm)) (dgt (ch (6 * tt + mm)) p2) (dgt (ch (6 * tt + mm)) p3) (if (dgt (ch (6 * tt + mm)) p3) < (dgt (ch (6 * tt + mm)) p2) then (dgt (ch (6 * tt + mm)) p3) else (dgt (ch (6 * tt + mm)) p2)) 8)))) ∧ oFr q6 zw w1) 0 0 := by
  refine Ct.of (cc := cX4_putTogether) (nL := 12) (ret := (some .int)) (by decide) rfl (Nat.le_of_ble_eq_true rfl) ?_
  intro p e s m args below meth c C hr hnm
  refine v_eqlv (lv9 := [(0, .ref a), (1, .int (nI mm)), (2, .int p2), (3, .int p3), (4, .int (nI tt))]) rfl ?_
  refine v_aload_n C dX4_putTogether_0 rfl rfl ?_
  refine v_iload_n C dX4_putTogether_1 rfl rfl ?_
  refine v_iload_n C dX4_putTogether_2 rfl rfl ?_
  refine v_iload C dX4_putTogether_3 rfl ?_
  refine v_callVi C (c_X4_chiefOf l E zw he h5 h6 hmm _ htt) (cwV 3 C.1.2.2.2.2 gX4_putTogether_X4_chiefOf rfl rfl rfl (by decide +kernel) ⟨by decide, by decide⟩) q 5 he rfl rfl rfl (Nat.le_of_ble_eq_true rfl) dX4_putTogether_5 ⟨Nat.le_of_ble_eq_true rfl, Nat.le_of_ble_eq_true rfl⟩ (fun r w1 hp => ?_)
  obtain ⟨rfl, hr9⟩ := hp
  rw [hr9]
  clear hr9
  refine v_istore C dX4_putTogether_8 (by decide) rfl ?_
  refine v_aload_n C dX4_putTogether_10 rfl rfl ?_
  refine v_iload_n C dX4_putTogether_11 rfl rfl ?_
  refine v_iload_n C dX4_putTogether_12 rfl rfl ?_
  refine v_at (pc9 := 13) rfl ?_
  refine v_iload C dX4_putTogether_13 rfl ?_
  refine v_callVi C (c_X4_chiefOf l E zw he h5 h6 hmm _ htt) (cwV 3 C.1.2.2.2.2 gX4_putTogether_X4_chiefOf rfl rfl rfl (by decide +kernel) ⟨by decide, by decide⟩) q 5 he rfl rfl rfl (Nat.le_of_ble_eq_true rfl) dX4_putTogether_15 ⟨Nat.le_of_ble_eq_true rfl, Nat.le_of_ble_eq_true rfl⟩ (fun r w1 hp => ?_)
  obtain ⟨rfl, hr9⟩ := hp
  rw [hr9]
  clear hr9
  refine v_istore C dX4_putTogether_18 (by decide) rfl ?_
  refine v_iload C dX4_putTogether_20 rfl ?_
  refine v_iload C dX4_putTogether_22 rfl ?_
  refine v_min C kwX4_putTogether_mn kwX4_putTogether_ms kwX4_putTogether_mi kwX4_putTogether_mc (by decide) (by decide) (Nat.le_of_ble_eq_true rfl) (Nat.le_of_ble_eq_true rfl) dX4_putTogether_24 ?_
  refine v_istore C dX4_putTogether_27 (by decide) rfl ?_
  refine v_iconst (v := 0) C dX4_putTogether_29 (by decide) ?_
  refine v_istore C dX4_putTogether_30 (by decide) rfl ?_
  refine v_iconst (v := 0) C dX4_putTogether_32 (by decide) ?_
  refine v_tov nI_0.symm ?_
  refine v_istore C dX4_putTogether_33 (by decide) rfl ?_
  refine lp_X4_putTogether C he h5 h6 hmm htt (X := (dgt (ch (6 * tt + mm)) p2)) (Y := (dgt (ch (6 * tt + mm)) p3)) (Z := (if (dgt (ch (6 * tt + mm)) p3) < (dgt (ch (6 * tt + mm)) p2) then (dgt (ch (6 * tt + mm)) p3) else (dgt (ch (6 * tt + mm)) p2))) ?_ 8 0 rfl
  refine v_aload_n C dX4_putTogether_102 rfl rfl ?_
  refine v_get C inX4_putTogether_X4 q he rfl 1 (by decide) kwX4_putTogether_15 rfl rfl dX4_putTogether_103 ?_
  refine v_iload C dX4_putTogether_106 rfl ?_
  refine v_bipush (v := 6) C dX4_putTogether_108 (by decide) ?_
  refine v_imul C dX4_putTogether_110 ?_
  refine v_iload_n C dX4_putTogether_111 rfl rfl ?_
  refine v_iadd C dX4_putTogether_112 ?_
  refine v_tov (ixm6 tt mm) ?_
  refine v_iload C dX4_putTogether_113 rfl ?_
  refine vo_iast C q6 h6 (vp_in_nI (by omega) (by decide)) dX4_putTogether_115 (fun zw h6 hO1 => ?_)
  rw [nI_clamp (show 6 * tt + mm < 2 ^ 31 by omega)] at h6
  refine v_at (pc9 := 116) rfl ?_
  refine v_iload C dX4_putTogether_116 rfl ?_
  exact v_iret C hr dX4_putTogether_118 (Nat.le_refl _) (Nat.le_refl _) ⟨_, rfl, ⟨rfl, h6, hO1⟩⟩
