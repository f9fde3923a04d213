theorem cpR_1s (f : Nat → Int32) (tk kk : Nat) : upd (cpR 1 f tk kk) (tk + kk + 1) (cpR 1 f tk kk tk) = cpR 1 f tk (kk + 1) := by
  have e : cpR 1 f tk kk tk = f tk := by unfold cpR; rw [if_neg (by omega)]
  rw [e]
  funext j
  by_cases h : j = tk + kk + 1
  · subst h
    rw [pk_us]
    unfold cpR
    rw [if_pos (by omega), show 1 * tk + (tk + kk + 1) % 1 = tk by omega]
  · rw [pk_un h]
    unfold cpR
    by_cases q : 1 * (tk + 1) ≤ j ∧ j < 1 * (tk + kk + 1)
    · rw [if_pos q, if_pos (by omega)]
    · rw [if_neg q, if_neg (by omega)]
theorem cpR_6s (f : Nat → Int32) (tk kk : Nat) : va_cpy (cpR 6 f tk kk) (cpR 6 f tk kk) (6 * tk) (6 * (tk + kk + 1)) 6 = cpR 6 f tk (kk + 1) := by
  funext j
  unfold va_cpy
  by_cases h : 6 * (tk + kk + 1) ≤ j ∧ j < 6 * (tk + kk + 1) + 6
  · rw [if_pos h]
    unfold cpR
    rw [if_neg (by omega), if_pos (show 6 * (tk + 1) ≤ j ∧ j < 6 * (tk + (kk + 1) + 1) by omega), show 6 * tk + (j - 6 * (tk + kk + 1)) = 6 * tk + j % 6 by omega]
  · rw [if_neg h]
    unfold cpR
    by_cases q : 6 * (tk + 1) ≤ j ∧ j < 6 * (tk + kk + 1)
    · rw [if_pos q, if_pos (by omega)]
    · rw [if_neg q, if_neg (by omega)]
theorem nI_mx {gg pp : Nat} (h1 : gg < 2 ^ 31) (h2 : pp < 2 ^ 31) : (if nI gg < nI pp then nI pp else nI gg) = nI (if gg < pp then pp else gg) := by
  by_cases z : gg < pp
  · rw [if_pos z, if_pos (nI_lt z h2)]
  · rw [if_neg z, if_neg (nI_nlt (by omega) h1)]
theorem im6 (n : Nat) : nI n * 6 = nI (6 * n) := by rw [show (6 : Int32) = nI 6 from rfl, pk_mul, Nat.mul_comm]
theorem upd_up (f : Nat → Int32) {i j : Nat} (h : i = j) (x : Int32) : upd f i x = upd f j x := by rw [h]
theorem inX4_carryOn_X4 : ∀ x ∈ wsX40, x ∈ wsX4_carryOn := by decide +kernel
theorem kwX4_carryOn_9 : Cond.fieldLink RX4 9 "SeriesMarks$Shortening" "droppedAt" "[I" ∈ wsX4_carryOn := by decide +kernel
theorem kwX4_carryOn_15 : Cond.fieldLink RX4 15 "SeriesMarks$Shortening" "chiefsAt" "[I" ∈ wsX4_carryOn := by decide +kernel
theorem kwX4_carryOn_ac : Cond.methodLink RX4 19 arraycopyName ∈ wsX4_carryOn := by decide +kernel
theorem kwX4_carryOn_an : Cond.native arraycopyName ∈ wsX4_carryOn := by decide +kernel
theorem kwX4_carryOn_as : Cond.static arraycopyName ∈ wsX4_carryOn := by decide +kernel
theorem kwX4_carryOn_ay : Cond.initialized "java/lang/System" ∈ wsX4_carryOn := by decide +kernel
set_option maxHeartbeats 4000000 in
set_option maxRecDepth 100000 in
theorem lp_X4_carryOn {p : Program} {l : Launch} {e : Env} {s : State} {m : MethodId} {args : Array Value} {below : List Frame} {meth : Method} {c : Code} {Q : State → Prop} {E : gE} {w0 : va_W} (C : gC p s m args meth c E cX4_carryOn 4 wsX4_carryOn yX4_carryOn.cls) {q q5 q6 a b5 b6 : Nat} (hq5 : q ≠ q5) (hq6 : q ≠ q6) (h56 : q5 ≠ q6) {dr ch : Nat → Int32} {tk nn : Nat} (hnn : tk + nn ≤ 199) (hK : ∀ zw : va_W, zw[q]? = some (a, .inr (5, [.ref b5, .ref b6])) → zw[q5]? = some (b5, .inl (gI E, 200, .inl (cpR 1 dr tk nn))) → zw[q6]? = some (b6, .inl (gI E, 1200, .inl (cpR 6 ch tk nn))) → zw.length = w0.length → (∀ j, j ≠ q5 → j ≠ q6 → zw[j]? = w0[j]?) → V p l e ({ frames := 1, cells := 0, slots := 0, locals := 40 }) s m args below meth c E 4 zw 0 0 Q 48 [(0, .ref a), (1, .int (nI tk)), (2, .int (nI (tk + nn))), (3, .int (nI (tk + nn + 1)))] []) : ∀ n i : Nat, i + n = nn → ∀ zw : va_W, zw[q]? = some (a, .inr (5, [.ref b5, .ref b6])) → zw[q5]? = some (b5, .inl (gI E, 200, .inl (cpR 1 dr tk i))) → zw[q6]? = some (b6, .inl (gI E, 1200, .inl (cpR 6 ch tk i))) → zw.length = w0.length → (∀ j, j ≠ q5 → j ≠ q6 → zw[j]? = w0[j]?) → V p l e ({ frames := 1, cells := 0, slots := 0, locals := 40 }) s m args below meth c E 4 zw 0 0 Q 4 [(0, .ref a), (1, .int (nI tk)), (2, .int (nI (tk + nn))), (3, .int (nI (tk + i + 1)))] [] := by
  intro n
  induction n with
  | zero =>
    intro i hi zw he h5 h6 hl9 hf9
    obtain rfl : i = nn := by omega
    refine v_iload_n C dX4_carryOn_4 rfl rfl ?_
    refine v_iload_n C dX4_carryOn_5 rfl rfl ?_
    refine v_icmp_gt (tgt := 48) C dX4_carryOn_6 (by decide) (fun c6 => ?_) (fun c6 => absurd (nI_lt (by omega) (by omega)) c6)
    exact hK zw he h5 h6 hl9 hf9
  | succ n ih =>
    intro i hi zw he h5 h6 hl9 hf9
    refine v_iload_n C dX4_carryOn_4 rfl rfl ?_
    refine v_iload_n C dX4_carryOn_5 rfl rfl ?_
    refine v_icmp_gt (tgt := 48) C dX4_carryOn_6 (by decide) (fun c6 => absurd c6 (nI_nlt (by omega) (by omega))) (fun c6 => ?_)
    refine v_aload_n C dX4_carryOn_9 rfl rfl ?_
    refine v_get C inX4_carryOn_X4 q he rfl 0 (by decide) kwX4_carryOn_9 rfl rfl dX4_carryOn_10 ?_
    refine v_iload_n C dX4_carryOn_13 rfl rfl ?_
    refine v_aload_n C dX4_carryOn_14 rfl rfl ?_
    refine v_get C inX4_carryOn_X4 q he rfl 0 (by decide) kwX4_carryOn_9 rfl rfl dX4_carryOn_15 ?_
    refine v_iload_n C dX4_carryOn_18 rfl rfl ?_
    refine v_at (pc9 := 19) rfl ?_
    refine v_iald C q5 h5 (vp_in_nI (by omega) (by decide)) dX4_carryOn_19 ?_
    refine v_tov (congrArg (cpR 1 dr tk i) (nI_clamp (show tk < 2 ^ 31 by omega))) ?_
    refine vo_iast C q5 h5 (vp_in_nI (by omega) (by decide)) dX4_carryOn_20 (fun zw h5 hO1 => ?_)
    rw [nI_clamp (show tk + i + 1 < 2 ^ 31 by omega), cpR_1s] at h5
    have he : zw[q]? = some (a, .inr (5, [.ref b5, .ref b6])) := (hO1.2 q hq5).trans he
    have h6 : zw[q6]? = some (b6, .inl (gI E, 1200, .inl (cpR 6 ch tk i))) := (hO1.2 q6 (Ne.symm h56)).trans h6
    refine v_aload_n C dX4_carryOn_21 rfl rfl ?_
    refine v_get C inX4_carryOn_X4 q he rfl 1 (by decide) kwX4_carryOn_15 rfl rfl dX4_carryOn_22 ?_
    refine v_iload_n C dX4_carryOn_25 rfl rfl ?_
    refine v_bipush (v := 6) C dX4_carryOn_26 (by decide) ?_
    refine v_imul C dX4_carryOn_28 ?_
    refine v_tov (im6 _) ?_
    refine v_aload_n C dX4_carryOn_29 rfl rfl ?_
    refine v_get C inX4_carryOn_X4 q he rfl 1 (by decide) kwX4_carryOn_15 rfl rfl dX4_carryOn_30 ?_
    refine v_iload_n C dX4_carryOn_33 rfl rfl ?_
    refine v_at (pc9 := 34) rfl ?_
    refine v_bipush (v := 6) C dX4_carryOn_34 (by decide) ?_
    refine v_imul C dX4_carryOn_36 ?_
    refine v_tov (im6 _) ?_
    refine v_bipush (v := 6) C dX4_carryOn_37 (by decide) ?_
    refine v_copyi C q6 q6 kwX4_carryOn_ac kwX4_carryOn_an kwX4_carryOn_as kwX4_carryOn_ay h6 h6 (nI_pos (by omega)) (nI_pos (by omega)) (by decide) (by rw [nI_clamp (by omega), show (6 : Int32).toNatClampNeg = 6 from by decide]; omega) (by rw [nI_clamp (by omega), show (6 : Int32).toNatClampNeg = 6 from by decide]; omega) (by decide) (by decide) dX4_carryOn_39 (fun zw h6 hO2 => ?_)
    rw [nI_clamp (show 6 * tk < 2 ^ 31 by omega), nI_clamp (show 6 * (tk + i + 1) < 2 ^ 31 by omega), show (6 : Int32).toNatClampNeg = 6 from by decide, cpR_6s] at h6
    have he : zw[q]? = some (a, .inr (5, [.ref b5, .ref b6])) := (hO2.2 q hq6).trans he
    have h5 := (hO2.2 q5 h56).trans h5
    refine v_iincN C dX4_carryOn_42 rfl (by decide) rfl ?_
    refine v_goto (tgt := 4) C dX4_carryOn_45 (by decide) ?_
    exact ih (i + 1) (by omega) zw he h5 h6 (by rw [hO2.1, hO1.1]; exact hl9) (fun j z1 z2 => by rw [hO2.2 j z2, hO1.2 j z1]; exact hf9 j z1 z2)
set_option maxHeartbeats 4000000 in
set_option maxRecDepth 100000 in
theorem c_X4_carryOn (l : Launch) (E : gE) (zw : va_W) {q q5 q6 a b5 b6 : Nat} {dr ch : Nat → Int32} (he : zw[q]? = some (a, .inr (5, [.ref b5, .ref b6]))) (h5 : zw[q5]? = some (b5, .inl (gI E, 200, .inl dr))) (h6 : zw[q6]? = some (b6, .inl (gI E, 1200, .inl ch))) (hq5 : q ≠ q5) (hq6 : q ≠ q6) (h56 : q5 ≠ q6) {tk nn : Nat} (hnn : tk + nn ≤ 199) : CtU l yX4_carryOn wsX4_carryOn ({ frames := 1, cells := 0, slots := 0, locals := 40 }) E [.ref a, .int (nI tk), .int (nI (tk + nn))] zw (fun w1 => w1[q5]? = some (b5, .inl (gI E, 200, .inl (cpR 1 dr tk nn))) ∧ w1[q6]? = some (b6, .inl (gI E, 1200, .inl (cpR 6 ch tk nn))) ∧ w1.length = zw.length ∧ (∀ j, j ≠ q5 → j ≠ q6 → w1[j]? = zw[j]?)) 0 0 := by
  refine Ct.of (cc := cX4_carryOn) (nL := 4) (ret := none) (by decide) rfl (Nat.le_of_ble_eq_true rfl) ?_
  intro p e s m args below meth c C hr hnm
  refine v_eqlv (lv9 := [(0, .ref a), (1, .int (nI tk)), (2, .int (nI (tk + nn)))]) rfl ?_
  refine v_iload_n C dX4_carryOn_0 rfl rfl ?_
  refine v_iconst (v := 1) C dX4_carryOn_1 (by decide) ?_
  refine v_iadd C dX4_carryOn_2 ?_
  refine v_tov (y := nI (tk + 0 + 1)) (nI_1 tk) ?_
  refine v_istore_n C dX4_carryOn_3 rfl (by decide) rfl ?_
  refine lp_X4_carryOn (w0 := zw) (dr := dr) (ch := ch) C hq5 hq6 h56 hnn ?_ nn 0 (Nat.zero_add _) zw he (by rw [cpR_0]; exact h5) (by rw [cpR_0]; exact h6) rfl (fun _ _ _ => rfl)
  intro zw he h5 h6 hl9 hf9
  exact v_vret C hr dX4_carryOn_48 (Nat.le_refl _) (Nat.le_refl _) ⟨rfl, ⟨h5, h6, hl9, hf9⟩⟩
theorem kwJxa1e45_init_da8c8_oi : Cond.methodLink RJxa1e45 1 objectInit ∈ wsJxa1e45_init_da8c8 := by decide +kernel
theorem kwJxa1e45_init_da8c8_ii : Cond.instanceMethod objectInit ∈ wsJxa1e45_init_da8c8 := by decide +kernel
theorem kwJxa1e45_init_da8c8_ci : Cond.code objectInit ⟨#[0xb1]⟩ 1 none ∈ wsJxa1e45_init_da8c8 := by decide +kernel
set_option maxHeartbeats 4000000 in
set_option maxRecDepth 100000 in
theorem c_Jxa1e45_init_da8c8 (l : Launch) (E : gE) (zw : va_W) (a : Nat) : CtU l yJxa1e45_init_da8c8 wsJxa1e45_init_da8c8 ({ frames := 1, cells := 0, slots := 0, locals := 20 }) E [.ref a] zw (fun w1 => zw = w1) 0 0 := by
  refine Ct.of (cc := cJxa1e45_init_da8c8) (nL := 1) (ret := none) (by decide) rfl (Nat.le_of_ble_eq_true rfl) ?_
  intro p e s m args below meth c C hr hnm
  refine v_eqlv (lv9 := [(0, .ref a)]) rfl ?_
  refine v_aload_n C dJxa1e45_init_da8c8_0 rfl rfl ?_
  refine v_objInit C kwJxa1e45_init_da8c8_oi kwJxa1e45_init_da8c8_ii kwJxa1e45_init_da8c8_ci dJxa1e45_init_da8c8_1 (by decide) (by decide) ?_
  exact v_vret C hr dJxa1e45_init_da8c8_4 (Nat.le_refl _) (Nat.le_refl _) ⟨rfl, rfl⟩
theorem kwJxc12de_init_da8c8_iniJxa1e45 : Cond.initialized RJxa1e45 ∈ wsJxc12de_init_da8c8 := by decide +kernel
theorem kwJxc12de_init_da8c8_ml1 : Cond.methodLink RJxc12de 1 yJxa1e45_init_da8c8 ∈ wsJxc12de_init_da8c8 := by decide +kernel
theorem kwJxc12de_init_da8c8_imJxa1e45_init_da8c8 : Cond.instanceMethod yJxa1e45_init_da8c8 ∈ wsJxc12de_init_da8c8 := by decide +kernel
theorem inJxc12de_init_da8c8_Jx4a65c : ∀ x ∈ wsJx4a65c0, x ∈ wsJxc12de_init_da8c8 := by decide +kernel
theorem kwJxc12de_init_da8c8_7 : Cond.fieldLink RJxc12de 7 "java/util/AbstractList" "modCount" "I" ∈ wsJxc12de_init_da8c8 := by decide +kernel
set_option maxHeartbeats 4000000 in
set_option maxRecDepth 100000 in
theorem c_Jxc12de_init_da8c8 (l : Launch) (E : gE) (zw : va_W) {q a : Nat} (he : zw[q]? = some (a, .inr (0, [.int 0, .null, .int 0]))) : CtU l yJxc12de_init_da8c8 wsJxc12de_init_da8c8 ({ frames := 2, cells := 0, slots := 0, locals := 40 }) E [.ref a] zw (fun w1 => w1[q]? = some (a, .inr (0, [.int 0, .null, .int 0])) ∧ oFr q zw w1) 0 0 := by
  refine Ct.of (cc := cJxc12de_init_da8c8) (nL := 1) (ret := none) (by decide) rfl (Nat.le_of_ble_eq_true rfl) ?_
  intro p e s m args below meth c C hr hnm
  refine v_eqlv (lv9 := [(0, .ref a)]) rfl ?_
  obtain ⟨w0, hw0⟩ : ∃ w0 : va_W, w0 = zw := ⟨_, rfl⟩
  have hO : oFr q w0 zw := by rw [hw0]; exact ⟨rfl, fun _ _ => rfl⟩
  refine v_aload_n C dJxc12de_init_da8c8_0 rfl rfl ?_
  refine v_callIu C (c_Jxa1e45_init_da8c8 l E zw _) (cwI 0 C.1.2.2.2.2 gJxc12de_init_da8c8_Jxa1e45_init_da8c8 rfl rfl rfl (C.1.2.2.2.2 _ kwJxc12de_init_da8c8_iniJxa1e45) (C.1.2.2.2.2 _ kwJxc12de_init_da8c8_ml1) (C.1.2.2.2.2 _ kwJxc12de_init_da8c8_imJxa1e45_init_da8c8) rfl (by decide +kernel) ⟨by decide, by decide⟩) rfl rfl (Nat.le_of_ble_eq_true rfl) dJxc12de_init_da8c8_1 ⟨Nat.le_of_ble_eq_true rfl, Nat.le_of_ble_eq_true rfl⟩ (fun w1 hp => ?_)
  obtain rfl := hp
  refine v_aload_n C dJxc12de_init_da8c8_4 rfl rfl ?_
  refine v_iconst (v := 0) C dJxc12de_init_da8c8_5 (by decide) ?_
  refine vo_put (ty := .int) C inJxc12de_init_da8c8_Jx4a65c tyJx4a65c tyJx4a65c_ok nmJx4a65c q he rfl 0 (by decide) kwJxc12de_init_da8c8_7 rfl rfl (by decide +kernel) rfl rfl (Nat.le_of_ble_eq_true rfl) dJxc12de_init_da8c8_6 (fun zw he hO1 => ?_)
  have hO := hO.tr hO1
  exact v_vret C hr dJxc12de_init_da8c8_9 (Nat.le_refl _) (Nat.le_refl _) ⟨rfl, ⟨he, hw0 ▸ hO⟩⟩
theorem kwJx4a65c_init_da8c8_iniJxc12de : Cond.initialized RJxc12de ∈ wsJx4a65c_init_da8c8 := by decide +kernel
theorem kwJx4a65c_init_da8c8_ml1 : Cond.methodLink RJx4a65c 1 yJxc12de_init_da8c8 ∈ wsJx4a65c_init_da8c8 := by decide +kernel
theorem kwJx4a65c_init_da8c8_imJxc12de_init_da8c8 : Cond.instanceMethod yJxc12de_init_da8c8 ∈ wsJx4a65c_init_da8c8 := by decide +kernel
theorem kwJx4a65c_init_da8c8_39 : Cond.fieldLink RJx4a65c 39 "java/util/ArrayList" "DEFAULTCAPACITY_EMPTY_ELEMENTDATA" "[Ljava/lang/Object;" ∈ wsJx4a65c_init_da8c8 := by decide +kernel
theorem inJx4a65c_init_da8c8_Jx4a65c : ∀ x ∈ wsJx4a65c0, x ∈ wsJx4a65c_init_da8c8 := by decide +kernel
theorem kwJx4a65c_init_da8c8_9 : Cond.fieldLink RJx4a65c 9 "java/util/ArrayList" "elementData" "[Ljava/lang/Object;" ∈ wsJx4a65c_init_da8c8 := by decide +kernel
set_option maxHeartbeats 4000000 in
set_option maxRecDepth 100000 in
theorem c_Jx4a65c_init_da8c8 (l : Launch) (E : gE) (zw : va_W) {q a : Nat} (he : zw[q]? = some (a, .inr (0, [.int 0, .null, .int 0]))) : CtU l yJx4a65c_init_da8c8 wsJx4a65c_init_da8c8 ({ frames := 3, cells := 0, slots := 0, locals := 60 }) E [.ref a] zw (fun w1 => w1[q]? = some (a, .inr (0, [.int 0, .ref (gDe E), .int 0])) ∧ oFr q zw w1) 0 0 := by
  refine Ct.of (cc := cJx4a65c_init_da8c8) (nL := 1) (ret := none) (by decide) rfl (Nat.le_of_ble_eq_true rfl) ?_
  intro p e s m args below meth c C hr hnm
  refine v_eqlv (lv9 := [(0, .ref a)]) rfl ?_
  obtain ⟨w0, hw0⟩ : ∃ w0 : va_W, w0 = zw := ⟨_, rfl⟩
  have hO : oFr q w0 zw := by rw [hw0]; exact ⟨rfl, fun _ _ => rfl⟩
  refine v_aload_n C dJx4a65c_init_da8c8_0 rfl rfl ?_
  refine v_callIu C (c_Jxc12de_init_da8c8 l E zw he) (cwI 0 C.1.2.2.2.2 gJx4a65c_init_da8c8_Jxc12de_init_da8c8 rfl rfl rfl (C.1.2.2.2.2 _ kwJx4a65c_init_da8c8_iniJxc12de) (C.1.2.2.2.2 _ kwJx4a65c_init_da8c8_ml1) (C.1.2.2.2.2 _ kwJx4a65c_init_da8c8_imJxc12de_init_da8c8) rfl (by decide +kernel) ⟨by decide, by decide⟩) rfl rfl (Nat.le_of_ble_eq_true rfl) dJx4a65c_init_da8c8_1 ⟨Nat.le_of_ble_eq_true rfl, Nat.le_of_ble_eq_true rfl⟩ (fun zw hp => ?_)
  obtain ⟨he, hO1⟩ := hp
  have hO := hO.tr hO1
  refine v_aload_n C dJx4a65c_init_da8c8_4 rfl rfl ?_
  refine v_getDe C kwJx4a65c_init_da8c8_39 dJx4a65c_init_da8c8_5 ?_
  refine vo_put (ty := .array (.object "java/lang/Object")) C inJx4a65c_init_da8c8_Jx4a65c tyJx4a65c tyJx4a65c_ok nmJx4a65c q he rfl 1 (by decide) kwJx4a65c_init_da8c8_9 rfl rfl (by decide +kernel) rfl rfl (Nat.le_of_ble_eq_true rfl) dJx4a65c_init_da8c8_8 (fun zw he hO1 => ?_)
  have hO := hO.tr hO1
  exact v_vret C hr dJx4a65c_init_da8c8_11 (Nat.le_refl _) (Nat.le_refl _) ⟨rfl, ⟨he, hw0 ▸ hO⟩⟩
theorem kwJ8_newLength_cabcc_maxl : Cond.methodLink RJ8 194 Lib.Math.max.name ∈ wsJ8_newLength_cabcc := by decide +kernel
theorem kwJ8_newLength_cabcc_maxs : Cond.static Lib.Math.max.name ∈ wsJ8_newLength_cabcc := by decide +kernel
theorem kwJ8_newLength_cabcc_maxi : Cond.initialized "java/lang/Math" ∈ wsJ8_newLength_cabcc := by decide +kernel
theorem kwJ8_newLength_cabcc_maxc : Cond.code Lib.Math.max.name Lib.Math.max.code 2 (some .int) ∈ wsJ8_newLength_cabcc := by decide +kernel
theorem kwJ8_newLength_cabcc_c200 : Cond.constant RJ8 200 (2147483639) ∈ wsJ8_newLength_cabcc := by decide +kernel
set_option maxHeartbeats 4000000 in
set_option maxRecDepth 100000 in
theorem c_J8_newLength_cabcc (l : Launch) (E : gE) (zw : va_W) {oo gg pp : Nat} (h1 : 0 < oo) (h2 : oo < 2 ^ 20) (h3 : gg < 2 ^ 20) (h4 : pp < 2 ^ 20) : CtI l yJ8_newLength_cabcc wsJ8_newLength_cabcc ({ frames := 1, cells := 0, slots := 0, locals := 40 }) E [.int (nI oo), .int (nI gg), .int (nI pp)] zw (fun r w1 => zw = w1 ∧ r = nI (oo + (if gg < pp then pp else gg))) 0 0 := by
  refine Ct.of (cc := cJ8_newLength_cabcc) (nL := 4) (ret := (some .int)) (by decide) rfl (Nat.le_of_ble_eq_true rfl) ?_
  intro p e s m args below meth c C hr hnm
  refine v_eqlv (lv9 := [(0, .int (nI oo)), (1, .int (nI gg)), (2, .int (nI pp))]) rfl ?_
  refine v_iload_n C dJ8_newLength_cabcc_0 rfl rfl ?_
  refine v_iload_n C dJ8_newLength_cabcc_1 rfl rfl ?_
  refine v_iload_n C dJ8_newLength_cabcc_2 rfl rfl ?_
  refine v_max C kwJ8_newLength_cabcc_maxl kwJ8_newLength_cabcc_maxs kwJ8_newLength_cabcc_maxi kwJ8_newLength_cabcc_maxc (Nat.le_of_ble_eq_true rfl) (Nat.le_of_ble_eq_true rfl) (Nat.le_of_ble_eq_true rfl) (Nat.le_of_ble_eq_true rfl) dJ8_newLength_cabcc_3 ?_
  refine v_tov (nI_mx (by omega) (by omega)) ?_
  refine v_iadd C dJ8_newLength_cabcc_6 ?_
  refine v_tov (nI_add _ _) ?_
  refine v_istore_n C dJ8_newLength_cabcc_7 rfl (by decide) rfl ?_
  refine v_iconst (v := 0) C dJ8_newLength_cabcc_8 (by decide) ?_
  refine v_iload_n C dJ8_newLength_cabcc_9 rfl rfl ?_
  refine v_icmp_ge (tgt := 21) C dJ8_newLength_cabcc_10 (by decide) (fun c10 => absurd c10 (nI_nle (show 0 < oo + (if gg < pp then pp else gg) by omega) (by split <;> omega))) (fun c10 => ?_)
  refine v_at (pc9 := 13) rfl ?_
  refine v_iload_n C dJ8_newLength_cabcc_13 rfl rfl ?_
  refine v_ldc C kwJ8_newLength_cabcc_c200 dJ8_newLength_cabcc_14 ?_
  refine v_icmp_gt (tgt := 21) C dJ8_newLength_cabcc_16 (by decide) (fun c16 => absurd c16 (by rw [fa_lt, nI_toInt (by split <;> omega), show (2147483639 : Int32).toInt = 2147483639 from by decide]; split <;> omega)) (fun c16 => ?_)
  refine v_iload_n C dJ8_newLength_cabcc_19 rfl rfl ?_
  exact v_iret C hr dJ8_newLength_cabcc_20 (Nat.le_refl _) (Nat.le_refl _) ⟨_, rfl, ⟨rfl, rfl⟩⟩
theorem app_l {zw : va_W} {k : Nat} {y : Nat × va_E} {x : va_W} (h : zw[k]? = some y) : (zw ++ x)[k]? = some y := by rw [List.getElem?_append_left (at_lt h)]; exact h
theorem app_e (zw : va_W) (x : Nat × va_E) : (zw ++ [x])[zw.length]? = some x := by rw [List.getElem?_append_right (Nat.le_refl _), Nat.sub_self]; rfl
theorem kwJ7_copyOf_6403c_cl : Cond.classLink RJ7 110 "[Ljava/lang/Object;" ∈ wsJ7_copyOf_6403c := by decide +kernel
theorem kwJ7_copyOf_6403c_co : Cond.classLink RJ7 2 "java/lang/Object" ∈ wsJ7_copyOf_6403c := by decide +kernel
theorem kwJ7_copyOf_6403c_minl : Cond.methodLink RJ7 304 Lib.Math.min.name ∈ wsJ7_copyOf_6403c := by decide +kernel
theorem kwJ7_copyOf_6403c_mins : Cond.static Lib.Math.min.name ∈ wsJ7_copyOf_6403c := by decide +kernel
theorem kwJ7_copyOf_6403c_mini : Cond.initialized "java/lang/Math" ∈ wsJ7_copyOf_6403c := by decide +kernel
theorem kwJ7_copyOf_6403c_minc : Cond.code Lib.Math.min.name Lib.Math.min.code 2 (some .int) ∈ wsJ7_copyOf_6403c := by decide +kernel
theorem kwJ7_copyOf_6403c_ac : Cond.methodLink RJ7 150 arraycopyName ∈ wsJ7_copyOf_6403c := by decide +kernel
theorem kwJ7_copyOf_6403c_an : Cond.native arraycopyName ∈ wsJ7_copyOf_6403c := by decide +kernel
theorem kwJ7_copyOf_6403c_as : Cond.static arraycopyName ∈ wsJ7_copyOf_6403c := by decide +kernel
theorem kwJ7_copyOf_6403c_ay : Cond.initialized "java/lang/System" ∈ wsJ7_copyOf_6403c := by decide +kernel
set_option maxHeartbeats 4000000 in
set_option maxRecDepth 100000 in
theorem c_J7_copyOf_6403c (l : Launch) (E : gE) (zw : va_W) {qe ea cap : Nat} {f : Nat → Option Nat} (ha : zw[qe]? = some (ea, .inl (gO E, cap, .inr (.inr (.inr (.inr f)))))) {ci : Nat} {r9 : vw_C} (hc9 : vwCl[ci]? = some r9) (hca : r9.1 ∈ gNc) (hel : ∀ i y : Nat, i < cap → f i = some y → ∃ (k : Nat) (fs : List Value), zw[k]? = some (y, .inr (ci, fs))) {N : Nat} (hN : cap ≤ N) (hN2 : N ≤ 3000) : CtA l yJ7_copyOf_6403c wsJ7_copyOf_6403c ({ frames := 1, cells := 1, slots := 3000, locals := 40 }) E [.ref ea, .int (nI N), .ref (gMi E)] zw (fun r w1 => w1.length = zw.length + 1 ∧ (∃ f1 : Nat → Option Nat, w1[zw.length]? = some (r, .inl (gO E, N, .inr (.inr (.inr (.inr f1))))) ∧ ∀ j, j < cap → f1 j = f j) ∧ (∀ k, k < zw.length → w1[k]? = zw[k]?)) 1 3000 := by
  refine Ct.of (cc := cJ7_copyOf_6403c) (nL := 4) (ret := (some (.array (.object "java/lang/Object")))) (by decide) rfl (Nat.le_of_ble_eq_true rfl) ?_
  intro p e s m args below meth c C hr hnm
  refine v_eqlv (lv9 := [(0, .ref ea), (1, .int (nI N)), (2, .ref (gMi E))]) rfl ?_
  refine v_aload_n C dJ7_copyOf_6403c_0 rfl rfl ?_
  refine v_ldcM C kwJ7_copyOf_6403c_cl dJ7_copyOf_6403c_1 ?_
  refine v_acmp_ne (tgt := 13) C dJ7_copyOf_6403c_3 (by decide) (fun c3 => absurd rfl c3) (fun c3 => ?_)
  refine v_iload_n C dJ7_copyOf_6403c_6 rfl rfl ?_
  refine v_newo C N kwJ7_copyOf_6403c_co (nI_pos (by omega)) (nI_clamp (by omega)) (by omega) (by decide) (show 0 + N ≤ 3000 by omega) dJ7_copyOf_6403c_7 (fun q9 => ?_)
  refine v_goto (tgt := 24) C dJ7_copyOf_6403c_10 (by decide) ?_
  refine v_astore_n C dJ7_copyOf_6403c_24 rfl (by decide) rfl ?_
  refine v_aload_n C dJ7_copyOf_6403c_25 rfl rfl ?_
  refine v_iconst (v := 0) C dJ7_copyOf_6403c_26 (by decide) ?_
  refine v_aload_n C dJ7_copyOf_6403c_27 rfl rfl ?_
  refine v_iconst (v := 0) C dJ7_copyOf_6403c_28 (by decide) ?_
  refine v_aload_n C dJ7_copyOf_6403c_29 rfl rfl ?_
  refine v_alen C qe 2 (app_l ha) rfl rfl dJ7_copyOf_6403c_30 ?_
  refine v_iload_n C dJ7_copyOf_6403c_31 rfl rfl ?_
  refine v_min C kwJ7_copyOf_6403c_minl kwJ7_copyOf_6403c_mins kwJ7_copyOf_6403c_mini kwJ7_copyOf_6403c_minc (Nat.le_of_ble_eq_true rfl) (Nat.le_of_ble_eq_true rfl) (Nat.le_of_ble_eq_true rfl) (show 0 + N ≤ 3000 by omega) dJ7_copyOf_6403c_32 ?_
  refine v_tov (y := nI cap) (if_neg (nI_nlt (a := N) (b := cap) hN (by omega))) ?_
  refine v_copyq C qe zw.length ci kwJ7_copyOf_6403c_ac kwJ7_copyOf_6403c_an kwJ7_copyOf_6403c_as kwJ7_copyOf_6403c_ay (app_l ha) (app_e zw _) (by decide) (by decide) (nI_pos (by omega)) (by rw [nI_clamp (by omega), show (0 : Int32).toNatClampNeg = 0 from by decide]; omega) (by rw [nI_clamp (by omega), show (0 : Int32).toNatClampNeg = 0 from by decide]; omega) hc9 hca (fun i hi y hy => ?_) (Nat.le_of_ble_eq_true rfl) (Nat.le_of_ble_eq_true rfl) dJ7_copyOf_6403c_35 (fun w1 h1 hO => ?_)
  · rw [nI_clamp (by omega)] at hi
    rw [show (0 : Int32).toNatClampNeg = 0 from by decide, Nat.zero_add] at hy
    obtain ⟨k9, fs, hk⟩ := hel i y hi hy
    exact ⟨k9, fs, app_l hk⟩
  rw [nI_clamp (show cap < 2 ^ 31 by omega), show (0 : Int32).toNatClampNeg = 0 from by decide] at h1
  refine v_aload_n C dJ7_copyOf_6403c_38 rfl rfl ?_
  exact v_aret C hr (Or.inr ⟨_, rfl⟩) (Or.inr ⟨_, rfl⟩) dJ7_copyOf_6403c_39 (by decide) (show 0 + N ≤ 3000 by omega) ⟨q9, rfl, by rw [hO.1, List.length_append]; rfl, ⟨_, h1, fun j hj => by rw [pk_cpy_in (by omega) (by omega)]; rw [Nat.zero_add, Nat.sub_zero]⟩, fun k9 hk => by rw [hO.2 k9 (by omega), List.getElem?_append_left hk]⟩
theorem kwJ7_copyOf_1904c_gl : Cond.methodLink RJ7 86 ⟨"java/lang/Object", "getClass", "()Ljava/lang/Class;"⟩ ∈ wsJ7_copyOf_1904c := by decide +kernel
theorem kwJ7_copyOf_1904c_gs : Cond.selects "[Ljava/lang/Object;" ⟨"java/lang/Object", "getClass", "()Ljava/lang/Class;"⟩ ⟨"java/lang/Object", "getClass", "()Ljava/lang/Class;"⟩ ∈ wsJ7_copyOf_1904c := by decide +kernel
theorem kwJ7_copyOf_1904c_gi : Cond.instanceMethod ⟨"java/lang/Object", "getClass", "()Ljava/lang/Class;"⟩ ∈ wsJ7_copyOf_1904c := by decide +kernel
theorem kwJ7_copyOf_1904c_gn : Cond.native ⟨"java/lang/Object", "getClass", "()Ljava/lang/Class;"⟩ ∈ wsJ7_copyOf_1904c := by decide +kernel
set_option maxHeartbeats 4000000 in
set_option maxRecDepth 100000 in
theorem c_J7_copyOf_1904c (l : Launch) (E : gE) (zw : va_W) {qe ea cap : Nat} {f : Nat → Option Nat} (ha : zw[qe]? = some (ea, .inl (gO E, cap, .inr (.inr (.inr (.inr f)))))) {ci : Nat} {r9 : vw_C} (hc9 : vwCl[ci]? = some r9) (hca : r9.1 ∈ gNc) (hel : ∀ i y : Nat, i < cap → f i = some y → ∃ (k : Nat) (fs : List Value), zw[k]? = some (y, .inr (ci, fs))) {N : Nat} (hN : cap ≤ N) (hN2 : N ≤ 3000) : CtA l yJ7_copyOf_1904c wsJ7_copyOf_1904c ({ frames := 2, cells := 1, slots := 3000, locals := 63 }) E [.ref ea, .int (nI N)] zw (fun r w1 => w1.length = zw.length + 1 ∧ (∃ f1 : Nat → Option Nat, w1[zw.length]? = some (r, .inl (gO E, N, .inr (.inr (.inr (.inr f1))))) ∧ ∀ j, j < cap → f1 j = f j) ∧ (∀ k, k < zw.length → w1[k]? = zw[k]?)) 1 3000 := by
  refine Ct.of (cc := cJ7_copyOf_1904c) (nL := 2) (ret := (some (.array (.object "java/lang/Object")))) (by decide) rfl (Nat.le_of_ble_eq_true rfl) ?_
  intro p e s m args below meth c C hr hnm
  refine v_eqlv (lv9 := [(0, .ref ea), (1, .int (nI N))]) rfl ?_
  refine v_aload_n C dJ7_copyOf_1904c_0 rfl rfl ?_
  refine v_iload_n C dJ7_copyOf_1904c_1 rfl rfl ?_
  refine v_aload_n C dJ7_copyOf_1904c_2 rfl rfl ?_
  refine v_getC (n := 0) C qe ha kwJ7_copyOf_1904c_gl kwJ7_copyOf_1904c_gs kwJ7_copyOf_1904c_gi kwJ7_copyOf_1904c_gn (Nat.le_of_ble_eq_true rfl) (Nat.le_of_ble_eq_true rfl) dJ7_copyOf_1904c_3 ?_
  refine v_callSa C (c_J7_copyOf_6403c l E zw ha hc9 hca hel hN hN2) (va_cwS 3 C.1.2.2.2.2 gJ7_copyOf_1904c_J7_copyOf_6403c rfl rfl rfl (by decide +kernel) ⟨by decide, by decide⟩) rfl rfl (Nat.le_of_ble_eq_true rfl) dJ7_copyOf_1904c_6 ⟨by decide, by decide⟩ (fun r w1 hp => ?_)
  exact v_aret C hr (Or.inr ⟨_, rfl⟩) (Or.inr ⟨_, rfl⟩) dJ7_copyOf_1904c_9 (by decide) (by decide) ⟨r, rfl, hp⟩
theorem inJx4a65c_grow_92f84_Jx4a65c : ∀ x ∈ wsJx4a65c0, x ∈ wsJx4a65c_grow_92f84 := by decide +kernel
theorem kwJx4a65c_grow_92f84_9 : Cond.fieldLink RJx4a65c 9 "java/util/ArrayList" "elementData" "[Ljava/lang/Object;" ∈ wsJx4a65c_grow_92f84 := by decide +kernel
theorem kwJx4a65c_grow_92f84_39 : Cond.fieldLink RJx4a65c 39 "java/util/ArrayList" "DEFAULTCAPACITY_EMPTY_ELEMENTDATA" "[Ljava/lang/Object;" ∈ wsJx4a65c_grow_92f84 := by decide +kernel
theorem kwJx4a65c_grow_92f84_maxl : Cond.methodLink RJx4a65c 79 Lib.Math.max.name ∈ wsJx4a65c_grow_92f84 := by decide +kernel
theorem kwJx4a65c_grow_92f84_maxs : Cond.static Lib.Math.max.name ∈ wsJx4a65c_grow_92f84 := by decide +kernel
theorem kwJx4a65c_grow_92f84_maxi : Cond.initialized "java/lang/Math" ∈ wsJx4a65c_grow_92f84 := by decide +kernel
theorem kwJx4a65c_grow_92f84_maxc : Cond.code Lib.Math.max.name Lib.Math.max.code 2 (some .int) ∈ wsJx4a65c_grow_92f84 := by decide +kernel
theorem kwJx4a65c_grow_92f84_co : Cond.classLink RJx4a65c 7 "java/lang/Object" ∈ wsJx4a65c_grow_92f84 := by decide +kernel
set_option maxHeartbeats 4000000 in
set_option maxRecDepth 100000 in
theorem c0_Jx4a65c_grow_92f84 (l : Launch) (E : gE) (zw : va_W) {q a : Nat} {mo : Int32} (he : zw[q]? = some (a, .inr (0, [.int mo, .ref (gDe E), .int (nI 0)]))) (f : Nat → Option Nat) : CtA l yJx4a65c_grow_92f84 wsJx4a65c_grow_92f84 ({ frames := 3, cells := 1, slots := 3000, locals := 84 }) E [.ref a, .int (nI 1)] zw (fun r w1 => w1.length = zw.length + 1 ∧ (∃ (N : Nat) (f1 : Nat → Option Nat), w1[zw.length]? = some (r, .inl (gO E, N, .inr (.inr (.inr (.inr f1))))) ∧ 0 < N ∧ N ≤ 3000 ∧ ∀ j, j < 0 → f1 j = f j) ∧ w1[q]? = some (a, .inr (0, [.int mo, .ref r, .int (nI 0)])) ∧ (∀ k, k < zw.length → k ≠ q → w1[k]? = zw[k]?)) 1 3000 := by
  refine Ct.of (cc := cJx4a65c_grow_92f84) (nL := 4) (ret := (some (.array (.object "java/lang/Object")))) (by decide) rfl (Nat.le_of_ble_eq_true rfl) ?_
  intro p e s m args below meth c C hr hnm
  refine v_eqlv (lv9 := [(0, .ref a), (1, .int (nI 1))]) rfl ?_
  refine v_aload_n C dJx4a65c_grow_92f84_0 rfl rfl ?_
  refine v_get C inJx4a65c_grow_92f84_Jx4a65c q he rfl 1 (by decide) kwJx4a65c_grow_92f84_9 rfl rfl dJx4a65c_grow_92f84_1 ?_
  refine v_lenDe C dJx4a65c_grow_92f84_4 ?_
  refine v_istore_n C dJx4a65c_grow_92f84_5 rfl (by decide) rfl ?_
  refine v_iload_n C dJx4a65c_grow_92f84_6 rfl rfl ?_
  refine v_if_gt (tgt := 20) C dJx4a65c_grow_92f84_7 (by decide) (fun c7 => absurd c7 (by decide)) (fun c7 => ?_)
  refine v_aload_n C dJx4a65c_grow_92f84_10 rfl rfl ?_
  refine v_get C inJx4a65c_grow_92f84_Jx4a65c q he rfl 1 (by decide) kwJx4a65c_grow_92f84_9 rfl rfl dJx4a65c_grow_92f84_11 ?_
  refine v_getDe C kwJx4a65c_grow_92f84_39 dJx4a65c_grow_92f84_14 ?_
  refine v_acmp_eq (tgt := 45) C dJx4a65c_grow_92f84_17 (by decide) (fun c17 => ?_) (fun c17 => absurd rfl c17)
  refine v_aload_n C dJx4a65c_grow_92f84_45 rfl rfl ?_
  refine v_bipush (v := 10) C dJx4a65c_grow_92f84_46 (by decide) ?_
  refine v_iload_n C dJx4a65c_grow_92f84_48 rfl rfl ?_
  refine v_max C kwJx4a65c_grow_92f84_maxl kwJx4a65c_grow_92f84_maxs kwJx4a65c_grow_92f84_maxi kwJx4a65c_grow_92f84_maxc (Nat.le_of_ble_eq_true rfl) (Nat.le_of_ble_eq_true rfl) (Nat.le_of_ble_eq_true rfl) (Nat.le_of_ble_eq_true rfl) dJx4a65c_grow_92f84_49 ?_
  refine v_tov (y := nI 10) (by decide) ?_
  refine v_newo C 10 kwJx4a65c_grow_92f84_co (by decide) (by decide) (by decide) (by decide) (by decide) dJx4a65c_grow_92f84_52 (fun q9 => ?_)
  refine v_dup_x1 C dJx4a65c_grow_92f84_55 rfl rfl ?_
  refine vo_put (ty := .array (.object "java/lang/Object")) C inJx4a65c_grow_92f84_Jx4a65c tyJx4a65c tyJx4a65c_ok nmJx4a65c q (app_l he) rfl 1 (by decide) kwJx4a65c_grow_92f84_9 rfl rfl (by decide +kernel) rfl rfl (Nat.le_of_ble_eq_true rfl) dJx4a65c_grow_92f84_56 (fun w1 he1 hO => ?_)
  exact v_aret C hr (Or.inr ⟨_, rfl⟩) (Or.inr ⟨_, rfl⟩) dJx4a65c_grow_92f84_59 (by decide) (by decide) ⟨q9, rfl, by rw [hO.1, List.length_append]; rfl, ⟨10, _, (hO.2 _ (Nat.ne_of_gt (at_lt he))).trans (app_e zw _), by decide, by decide, fun j hj => absurd hj (Nat.not_lt_zero j)⟩, he1, fun k9 h1 h2 => by rw [hO.2 k9 h2, List.getElem?_append_left h1]⟩
set_option maxHeartbeats 4000000 in
set_option maxRecDepth 100000 in
theorem c_Jx4a65c_grow_92f84 (l : Launch) (E : gE) (zw : va_W) {q a ea : Nat} {mo : Int32} {n : Nat} (he : zw[q]? = some (a, .inr (0, [.int mo, .ref ea, .int (nI n)]))) {qe : Nat} {f : Nat → Option Nat} (ha : zw[qe]? = some (ea, .inl (gO E, n, .inr (.inr (.inr (.inr f)))))) (hqe : qe ≠ q) (hn0 : 0 < n) (hn2 : n < 2000) {ci : Nat} {r9 : vw_C} (hc9 : vwCl[ci]? = some r9) (hca : r9.1 ∈ gNc) (hel : ∀ i y : Nat, i < n → f i = some y → ∃ (k : Nat) (fs : List Value), zw[k]? = some (y, .inr (ci, fs))) : CtA l yJx4a65c_grow_92f84 wsJx4a65c_grow_92f84 ({ frames := 3, cells := 1, slots := 3000, locals := 84 }) E [.ref a, .int (nI (n + 1))] zw (fun r w1 => w1.length = zw.length + 1 ∧ (∃ (N : Nat) (f1 : Nat → Option Nat), w1[zw.length]? = some (r, .inl (gO E, N, .inr (.inr (.inr (.inr f1))))) ∧ n < N ∧ N ≤ 3000 ∧ ∀ j, j < n → f1 j = f j) ∧ w1[q]? = some (a, .inr (0, [.int mo, .ref r, .int (nI n)])) ∧ (∀ k, k < zw.length → k ≠ q → w1[k]? = zw[k]?)) 1 3000 := by
  refine Ct.of (cc := cJx4a65c_grow_92f84) (nL := 4) (ret := (some (.array (.object "java/lang/Object")))) (by decide) rfl (Nat.le_of_ble_eq_true rfl) ?_
  intro p e s m args below meth c C hr hnm
  refine v_eqlv (lv9 := [(0, .ref a), (1, .int (nI (n + 1)))]) rfl ?_
  refine v_aload_n C dJx4a65c_grow_92f84_0 rfl rfl ?_
  refine v_get C inJx4a65c_grow_92f84_Jx4a65c q he rfl 1 (by decide) kwJx4a65c_grow_92f84_9 rfl rfl dJx4a65c_grow_92f84_1 ?_
  refine v_alen C qe 2 ha rfl rfl dJx4a65c_grow_92f84_4 ?_
  refine v_istore_n C dJx4a65c_grow_92f84_5 rfl (by decide) rfl ?_
  refine v_iload_n C dJx4a65c_grow_92f84_6 rfl rfl ?_
  refine v_if_gt (tgt := 20) C dJx4a65c_grow_92f84_7 (by decide) (fun c7 => ?_) (fun c7 => absurd (show (0 : Int32) < nI n by rw [fa_lt, ti_0, nI_toInt (by omega)]; omega) c7)
  refine v_iload_n C dJx4a65c_grow_92f84_20 rfl rfl ?_
  refine v_iload_n C dJx4a65c_grow_92f84_21 rfl rfl ?_
  refine v_iload_n C dJx4a65c_grow_92f84_22 rfl rfl ?_
  refine v_isub C dJx4a65c_grow_92f84_23 ?_
  refine v_tov (y := nI 1) (by rw [show Int32.ofNat n = nI n from rfl, pk_sub (by omega), Nat.add_sub_cancel_left]) ?_
  refine v_iload_n C dJx4a65c_grow_92f84_24 rfl rfl ?_
  refine v_iconst (v := 1) C dJx4a65c_grow_92f84_25 (by decide) ?_
  refine v_ishr C dJx4a65c_grow_92f84_26 ?_
  refine v_tov (y := nI (n / 2)) (pk_shrN (by omega) _ 1 (by decide)) ?_
  refine v_callSi C (c_J8_newLength_cabcc l E zw (oo := n) (gg := 1) (pp := n / 2) hn0 (by omega) (by omega) (by omega)) (va_cwS 3 C.1.2.2.2.2 gJx4a65c_grow_92f84_J8_newLength_cabcc rfl rfl rfl (by decide +kernel) ⟨by decide, by decide⟩) rfl rfl (Nat.le_of_ble_eq_true rfl) dJx4a65c_grow_92f84_27 ⟨by decide, by decide⟩ (fun r w1 hp => ?_)
  obtain ⟨rfl, rfl⟩ := hp
  obtain ⟨N, hN⟩ : ∃ N, N = n + (if 1 < n / 2 then n / 2 else 1) := ⟨_, rfl⟩
  rw [← hN]
  have hN1 : n < N := by rw [hN]; split <;> omega
  have hN2 : N ≤ 3000 := by rw [hN]; split <;> omega
  refine v_istore_n C dJx4a65c_grow_92f84_30 rfl (by decide) rfl ?_
  refine v_aload_n C dJx4a65c_grow_92f84_31 rfl rfl ?_
  refine v_aload_n C dJx4a65c_grow_92f84_32 rfl rfl ?_
  refine v_get C inJx4a65c_grow_92f84_Jx4a65c q he rfl 1 (by decide) kwJx4a65c_grow_92f84_9 rfl rfl dJx4a65c_grow_92f84_33 ?_
  refine v_iload_n C dJx4a65c_grow_92f84_36 rfl rfl ?_
  refine v_callSa C (c_J7_copyOf_1904c l E zw ha hc9 hca hel (N := N) (by omega) hN2) (va_cwS 2 C.1.2.2.2.2 gJx4a65c_grow_92f84_J7_copyOf_1904c rfl rfl rfl (by decide +kernel) ⟨by decide, by decide⟩) rfl rfl (Nat.le_of_ble_eq_true rfl) dJx4a65c_grow_92f84_37 ⟨by decide, by decide⟩ (fun r w1 hp => ?_)
  obtain ⟨h1, ⟨f1, h2, h3⟩, h4⟩ := hp
  have he1 : w1[q]? = some (a, .inr (0, [.int mo, .ref ea, .int (nI n)])) := (h4 q (at_lt he)).trans he
  refine v_dup_x1 C dJx4a65c_grow_92f84_40 rfl rfl ?_
  refine vo_put (ty := .array (.object "java/lang/Object")) C inJx4a65c_grow_92f84_Jx4a65c tyJx4a65c tyJx4a65c_ok nmJx4a65c q he1 rfl 1 (by decide) kwJx4a65c_grow_92f84_9 rfl rfl (by decide +kernel) rfl rfl (Nat.le_of_ble_eq_true rfl) dJx4a65c_grow_92f84_41 (fun w2 he2 hO => ?_)
  exact v_aret C hr (Or.inr ⟨_, rfl⟩) (Or.inr ⟨_, rfl⟩) dJx4a65c_grow_92f84_44 (by decide) (by decide) ⟨r, rfl, hO.1.trans h1, ⟨N, f1, (hO.2 _ (Nat.ne_of_gt (at_lt he))).trans h2, hN1, hN2, h3⟩, he2, fun k9 z1 z2 => by rw [hO.2 k9 z2, h4 k9 z1]⟩
