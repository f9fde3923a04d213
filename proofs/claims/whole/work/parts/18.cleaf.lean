theorem kwX2_init_oi : Cond.methodLink RX2 1 objectInit ∈ wsX2_init := by decide +kernel
theorem kwX2_init_ii : Cond.instanceMethod objectInit ∈ wsX2_init := by decide +kernel
theorem kwX2_init_ci : Cond.code objectInit ⟨#[0xb1]⟩ 1 none ∈ wsX2_init := by decide +kernel
theorem inX2_init_X2 : ∀ x ∈ wsX20, x ∈ wsX2_init := by decide +kernel
theorem kwX2_init_7 : Cond.fieldLink RX2 7 "SeriesMarks$Sample" "name" "I" ∈ wsX2_init := by decide +kernel
theorem kwX2_init_13 : Cond.fieldLink RX2 13 "SeriesMarks$Sample" "tick" "I" ∈ wsX2_init := by decide +kernel
theorem kwX2_init_16 : Cond.fieldLink RX2 16 "SeriesMarks$Sample" "rise" "I" ∈ wsX2_init := by decide +kernel
set_option maxHeartbeats 4000000 in
set_option maxRecDepth 100000 in
theorem c_X2_init (l : Launch) (E : gE) (zw : va_W) {q a : Nat} (he : zw[q]? = some (a, .inr (3, [.int 0, .int 0, .int 0]))) (x t y : Int32) : CtU l yX2_init wsX2_init ({ frames := 1, cells := 0, slots := 0, locals := 20 }) E [.ref a, .int x, .int t, .int y] zw (fun w1 => w1[q]? = some (a, .inr (3, [.int x, .int t, .int y])) ∧ oFr q zw w1) 0 0 := by
  refine Ct.of (cc := cX2_init) (nL := 4) (ret := none) (by decide) rfl (Nat.le_of_ble_eq_true rfl) ?_
  intro p e s m args below meth c C hr hnm
  refine v_eqlv (lv9 := [(0, .ref a), (1, .int x), (2, .int t), (3, .int y)]) rfl ?_
  obtain ⟨w0, hw0⟩ : ∃ w0 : va_W, w0 = zw := ⟨_, rfl⟩
  have hO : oFr q w0 zw := by rw [hw0]; exact ⟨rfl, fun _ _ => rfl⟩
  refine v_aload_n C dX2_init_0 rfl rfl ?_
  refine v_objInit C kwX2_init_oi kwX2_init_ii kwX2_init_ci dX2_init_1 (by decide) (by decide) ?_
  refine v_aload_n C dX2_init_4 rfl rfl ?_
  refine v_iload_n C dX2_init_5 rfl rfl ?_
  refine vo_putF (ty := .int) C inX2_init_X2 tyX2 tyX2_ok nmX2 q he rfl 0 (by decide) kwX2_init_7 rfl rfl hnm rfl (by decide +kernel) rfl rfl (Nat.le_of_ble_eq_true rfl) dX2_init_6 (fun zw he hO1 => ?_)
  have hO := hO.tr hO1
  refine v_aload_n C dX2_init_9 rfl rfl ?_
  refine v_iload_n C dX2_init_10 rfl rfl ?_
  refine vo_putF (ty := .int) C inX2_init_X2 tyX2 tyX2_ok nmX2 q he rfl 1 (by decide) kwX2_init_13 rfl rfl hnm rfl (by decide +kernel) rfl rfl (Nat.le_of_ble_eq_true rfl) dX2_init_11 (fun zw he hO1 => ?_)
  have hO := hO.tr hO1
  refine v_aload_n C dX2_init_14 rfl rfl ?_
  refine v_at (pc9 := 15) rfl ?_
  refine v_iload_n C dX2_init_15 rfl rfl ?_
  refine vo_putF (ty := .int) C inX2_init_X2 tyX2 tyX2_ok nmX2 q he rfl 2 (by decide) kwX2_init_16 rfl rfl hnm rfl (by decide +kernel) rfl rfl (Nat.le_of_ble_eq_true rfl) dX2_init_16 (fun zw he hO1 => ?_)
  have hO := hO.tr hO1
  exact v_vret C hr dX2_init_19 (Nat.le_refl _) (Nat.le_refl _) ⟨rfl, ⟨he, hw0 ▸ hO⟩⟩
theorem inX2_isWithin_X2 : ∀ x ∈ wsX20, x ∈ wsX2_isWithin := by decide +kernel
theorem kwX2_isWithin_13 : Cond.fieldLink RX2 13 "SeriesMarks$Sample" "tick" "I" ∈ wsX2_isWithin := by decide +kernel
set_option maxHeartbeats 4000000 in
set_option maxRecDepth 100000 in
theorem c_X2_isWithin (l : Launch) (E : gE) (zw : va_W) {q a : Nat} {x y z : Int32} (he : zw[q]? = some (a, .inr (3, [.int x, .int y, .int z]))) (f t : Int32) : CtI l yX2_isWithin wsX2_isWithin ({ frames := 0, cells := 0, slots := 0, locals := 0 }) E [.ref a, .int f, .int t] zw (fun r w1 => zw = w1 ∧ r = b01 (f.toInt ≤ y.toInt ∧ y.toInt ≤ t.toInt)) 0 0 := by
  refine Ct.of (cc := cX2_isWithin) (nL := 3) (ret := (some .boolean)) (by decide) rfl (Nat.le_of_ble_eq_true rfl) ?_
  intro p e s m args below meth c C hr hnm
  refine v_eqlv (lv9 := [(0, .ref a), (1, .int f), (2, .int t)]) rfl ?_
  refine v_iload_n C dX2_isWithin_0 rfl rfl ?_
  refine v_aload_n C dX2_isWithin_1 rfl rfl ?_
  refine v_get C inX2_isWithin_X2 q he rfl 1 (by decide) kwX2_isWithin_13 rfl rfl dX2_isWithin_2 ?_
  refine v_icmp_gt (tgt := 20) C dX2_isWithin_5 (by decide) (fun c5 => ?_) (fun c5 => ?_)
  · refine v_iconst (v := 0) C dX2_isWithin_20 (by decide) ?_
    exact v_zret C hr dX2_isWithin_21 (by decide) (Nat.le_refl _) (Nat.le_refl _) ⟨_, rfl, ⟨rfl, by rw [show (b01 (f.toInt ≤ y.toInt ∧ y.toInt ≤ t.toInt)) = _ from rfl]; first | exact (b01_f (by rw [fa_lt] at c5; omega)).symm | exact (b01_f (by rw [fa_lt] at c13; omega)).symm | exact (b01_t (by rw [fa_lt] at c5 c13; omega)).symm⟩⟩
  · refine v_aload_n C dX2_isWithin_8 rfl rfl ?_
    refine v_get C inX2_isWithin_X2 q he rfl 1 (by decide) kwX2_isWithin_13 rfl rfl dX2_isWithin_9 ?_
    refine v_iload_n C dX2_isWithin_12 rfl rfl ?_
    refine v_icmp_gt (tgt := 20) C dX2_isWithin_13 (by decide) (fun c13 => ?_) (fun c13 => ?_)
    · refine v_iconst (v := 0) C dX2_isWithin_20 (by decide) ?_
      exact v_zret C hr dX2_isWithin_21 (by decide) (Nat.le_refl _) (Nat.le_refl _) ⟨_, rfl, ⟨rfl, by rw [show (b01 (f.toInt ≤ y.toInt ∧ y.toInt ≤ t.toInt)) = _ from rfl]; first | exact (b01_f (by rw [fa_lt] at c5; omega)).symm | exact (b01_f (by rw [fa_lt] at c13; omega)).symm | exact (b01_t (by rw [fa_lt] at c5 c13; omega)).symm⟩⟩
    · refine v_iconst (v := 1) C dX2_isWithin_16 (by decide) ?_
      refine v_goto (tgt := 21) C dX2_isWithin_17 (by decide) ?_
      exact v_zret C hr dX2_isWithin_21 (by decide) (Nat.le_refl _) (Nat.le_refl _) ⟨_, rfl, ⟨rfl, by rw [show (b01 (f.toInt ≤ y.toInt ∧ y.toInt ≤ t.toInt)) = _ from rfl]; first | exact (b01_f (by rw [fa_lt] at c5; omega)).symm | exact (b01_f (by rw [fa_lt] at c13; omega)).symm | exact (b01_t (by rw [fa_lt] at c5 c13; omega)).symm⟩⟩
theorem kwX3_init_oi : Cond.methodLink RX3 1 objectInit ∈ wsX3_init := by decide +kernel
theorem kwX3_init_ii : Cond.instanceMethod objectInit ∈ wsX3_init := by decide +kernel
theorem kwX3_init_ci : Cond.code objectInit ⟨#[0xb1]⟩ 1 none ∈ wsX3_init := by decide +kernel
theorem inX3_init_X3 : ∀ x ∈ wsX30, x ∈ wsX3_init := by decide +kernel
theorem kwX3_init_7 : Cond.fieldLink RX3 7 "SeriesMarks$Series" "name" "I" ∈ wsX3_init := by decide +kernel
theorem kwX3_init_13 : Cond.fieldLink RX3 13 "SeriesMarks$Series" "firstTick" "I" ∈ wsX3_init := by decide +kernel
theorem kwX3_init_16 : Cond.fieldLink RX3 16 "SeriesMarks$Series" "latestTick" "I" ∈ wsX3_init := by decide +kernel
set_option maxHeartbeats 4000000 in
set_option maxRecDepth 100000 in
theorem c_X3_init (l : Launch) (E : gE) (zw : va_W) {q a : Nat} (he : zw[q]? = some (a, .inr (4, [.int 0, .int 0, .int 0, .int 0, .int 0, .int 0]))) (x t : Int32) : CtU l yX3_init wsX3_init ({ frames := 1, cells := 0, slots := 0, locals := 20 }) E [.ref a, .int x, .int t] zw (fun w1 => w1[q]? = some (a, .inr (4, [.int x, .int t, .int t, .int 0, .int 0, .int 0])) ∧ oFr q zw w1) 0 0 := by
  refine Ct.of (cc := cX3_init) (nL := 3) (ret := none) (by decide) rfl (Nat.le_of_ble_eq_true rfl) ?_
  intro p e s m args below meth c C hr hnm
  refine v_eqlv (lv9 := [(0, .ref a), (1, .int x), (2, .int t)]) rfl ?_
  obtain ⟨w0, hw0⟩ : ∃ w0 : va_W, w0 = zw := ⟨_, rfl⟩
  have hO : oFr q w0 zw := by rw [hw0]; exact ⟨rfl, fun _ _ => rfl⟩
  refine v_aload_n C dX3_init_0 rfl rfl ?_
  refine v_objInit C kwX3_init_oi kwX3_init_ii kwX3_init_ci dX3_init_1 (by decide) (by decide) ?_
  refine v_aload_n C dX3_init_4 rfl rfl ?_
  refine v_iload_n C dX3_init_5 rfl rfl ?_
  refine vo_putF (ty := .int) C inX3_init_X3 tyX3 tyX3_ok nmX3 q he rfl 0 (by decide) kwX3_init_7 rfl rfl hnm rfl (by decide +kernel) rfl rfl (Nat.le_of_ble_eq_true rfl) dX3_init_6 (fun zw he hO1 => ?_)
  have hO := hO.tr hO1
  refine v_aload_n C dX3_init_9 rfl rfl ?_
  refine v_iload_n C dX3_init_10 rfl rfl ?_
  refine vo_putF (ty := .int) C inX3_init_X3 tyX3 tyX3_ok nmX3 q he rfl 1 (by decide) kwX3_init_13 rfl rfl hnm rfl (by decide +kernel) rfl rfl (Nat.le_of_ble_eq_true rfl) dX3_init_11 (fun zw he hO1 => ?_)
  have hO := hO.tr hO1
  refine v_aload_n C dX3_init_14 rfl rfl ?_
  refine v_at (pc9 := 15) rfl ?_
  refine v_iload_n C dX3_init_15 rfl rfl ?_
  refine vo_put (ty := .int) C inX3_init_X3 tyX3 tyX3_ok nmX3 q he rfl 2 (by decide) kwX3_init_16 rfl rfl (by decide +kernel) rfl rfl (Nat.le_of_ble_eq_true rfl) dX3_init_16 (fun zw he hO1 => ?_)
  have hO := hO.tr hO1
  exact v_vret C hr dX3_init_19 (Nat.le_refl _) (Nat.le_refl _) ⟨rfl, ⟨he, hw0 ▸ hO⟩⟩
theorem inX3_takeSample_X3 : ∀ x ∈ wsX30, x ∈ wsX3_takeSample := by decide +kernel
theorem kwX3_takeSample_19 : Cond.fieldLink RX3 19 "SeriesMarks$Series" "latestCount" "I" ∈ wsX3_takeSample := by decide +kernel
theorem kwX3_takeSample_25 : Cond.fieldLink RX3 25 "SeriesMarks$Series" "sampleCount" "I" ∈ wsX3_takeSample := by decide +kernel
theorem kwX3_takeSample_16 : Cond.fieldLink RX3 16 "SeriesMarks$Series" "latestTick" "I" ∈ wsX3_takeSample := by decide +kernel
theorem kwX3_takeSample_22 : Cond.fieldLink RX3 22 "SeriesMarks$Series" "restarts" "I" ∈ wsX3_takeSample := by decide +kernel
set_option maxHeartbeats 4000000 in
set_option maxRecDepth 100000 in
theorem c_X3_takeSample (l : Launch) (E : gE) (zw : va_W) {q a : Nat} {x f t y n b : Int32} (he : zw[q]? = some (a, .inr (4, [.int x, .int f, .int t, .int y, .int n, .int b]))) (z t1 : Int32) : CtI l yX3_takeSample wsX3_takeSample ({ frames := 0, cells := 0, slots := 0, locals := 0 }) E [.ref a, .int z, .int t1] zw (fun r w1 => r = (if z.toInt < y.toInt then z else z - y) ∧ w1[q]? = some (a, .inr (4, [.int x, .int f, .int t1, .int z, .int (n + 1), .int (b + b01 (z.toInt < y.toInt))])) ∧ oFr q zw w1) 0 0 := by
  refine Ct.of (cc := cX3_takeSample) (nL := 5) (ret := (some .int)) (by decide) rfl (Nat.le_of_ble_eq_true rfl) ?_
  intro p e s m args below meth c C hr hnm
  refine v_eqlv (lv9 := [(0, .ref a), (1, .int z), (2, .int t1)]) rfl ?_
  obtain ⟨w0, hw0⟩ : ∃ w0 : va_W, w0 = zw := ⟨_, rfl⟩
  have hO : oFr q w0 zw := by rw [hw0]; exact ⟨rfl, fun _ _ => rfl⟩
  refine v_iload_n C dX3_takeSample_0 rfl rfl ?_
  refine v_aload_n C dX3_takeSample_1 rfl rfl ?_
  refine v_get C inX3_takeSample_X3 q he rfl 3 (by decide) kwX3_takeSample_19 rfl rfl dX3_takeSample_2 ?_
  refine v_icmp_ge (tgt := 12) C dX3_takeSample_5 (by decide) (fun c5 => ?_) (fun c5 => ?_)
  · have hb : ¬ z.toInt < y.toInt := by rw [fa_le] at c5; omega
    refine v_iconst (v := 0) C dX3_takeSample_12 (by decide) ?_
    refine v_istore_n C dX3_takeSample_13 rfl (by decide) rfl ?_
    refine v_iload_n C dX3_takeSample_14 rfl rfl ?_
    refine v_if_eq (tgt := 22) C dX3_takeSample_15 (by decide) (fun c15 => ?_) (fun c15 => absurd rfl c15)
    refine v_iload_n C dX3_takeSample_22 rfl rfl ?_
    refine v_aload_n C dX3_takeSample_23 rfl rfl ?_
    refine v_get C inX3_takeSample_X3 q he rfl 3 (by decide) kwX3_takeSample_19 rfl rfl dX3_takeSample_24 ?_
    refine v_isub C dX3_takeSample_27 ?_
    refine v_istore C dX3_takeSample_28 (by decide) rfl ?_
    refine v_at (pc9 := 30) rfl ?_
    refine v_iload_n C dX3_takeSample_30 rfl rfl ?_
    refine v_if_eq (tgt := 44) C dX3_takeSample_31 (by decide) (fun c31 => ?_) (fun c31 => absurd rfl c31)
    refine v_aload_n C dX3_takeSample_44 rfl rfl ?_
    refine v_dup C dX3_takeSample_45 rfl ?_
    refine v_get C inX3_takeSample_X3 q he rfl 4 (by decide) kwX3_takeSample_25 rfl rfl dX3_takeSample_46 ?_
    refine v_iconst (v := 1) C dX3_takeSample_49 (by decide) ?_
    refine v_iadd C dX3_takeSample_50 ?_
    refine vo_put (ty := .int) C inX3_takeSample_X3 tyX3 tyX3_ok nmX3 q he rfl 4 (by decide) kwX3_takeSample_25 rfl rfl (by decide +kernel) rfl rfl (Nat.le_of_ble_eq_true rfl) dX3_takeSample_51 (fun zw he hO1 => ?_)
    have hO := hO.tr hO1
    refine v_aload_n C dX3_takeSample_54 rfl rfl ?_
    refine v_iload_n C dX3_takeSample_55 rfl rfl ?_
    refine v_at (pc9 := 56) rfl ?_
    refine vo_put (ty := .int) C inX3_takeSample_X3 tyX3 tyX3_ok nmX3 q he rfl 3 (by decide) kwX3_takeSample_19 rfl rfl (by decide +kernel) rfl rfl (Nat.le_of_ble_eq_true rfl) dX3_takeSample_56 (fun zw he hO1 => ?_)
    have hO := hO.tr hO1
    refine v_aload_n C dX3_takeSample_59 rfl rfl ?_
    refine v_iload_n C dX3_takeSample_60 rfl rfl ?_
    refine vo_put (ty := .int) C inX3_takeSample_X3 tyX3 tyX3_ok nmX3 q he rfl 2 (by decide) kwX3_takeSample_16 rfl rfl (by decide +kernel) rfl rfl (Nat.le_of_ble_eq_true rfl) dX3_takeSample_61 (fun zw he hO1 => ?_)
    have hO := hO.tr hO1
    have he : zw[q]? = some (a, .inr (4, [.int x, .int f, .int t1, .int z, .int (n + 1), .int b])) := he
    refine v_iload C dX3_takeSample_64 rfl ?_
    exact v_iret C hr dX3_takeSample_66 (Nat.le_refl _) (Nat.le_refl _) ⟨_, rfl, ⟨(if_neg hb).symm, by rw [b01_f hb, Int32.add_zero]; exact he, hw0 ▸ hO⟩⟩
  · have hb : z.toInt < y.toInt := by rw [fa_le] at c5; omega
    refine v_iconst (v := 1) C dX3_takeSample_8 (by decide) ?_
    refine v_goto (tgt := 13) C dX3_takeSample_9 (by decide) ?_
    refine v_istore_n C dX3_takeSample_13 rfl (by decide) rfl ?_
    refine v_iload_n C dX3_takeSample_14 rfl rfl ?_
    refine v_if_eq (tgt := 22) C dX3_takeSample_15 (by decide) (fun c15 => absurd c15 (by decide)) (fun c15 => ?_)
    refine v_iload_n C dX3_takeSample_18 rfl rfl ?_
    refine v_goto (tgt := 28) C dX3_takeSample_19 (by decide) ?_
    refine v_istore C dX3_takeSample_28 (by decide) rfl ?_
    refine v_iload_n C dX3_takeSample_30 rfl rfl ?_
    refine v_at (pc9 := 31) rfl ?_
    refine v_if_eq (tgt := 44) C dX3_takeSample_31 (by decide) (fun c31 => absurd c31 (by decide)) (fun c31 => ?_)
    refine v_aload_n C dX3_takeSample_34 rfl rfl ?_
    refine v_dup C dX3_takeSample_35 rfl ?_
    refine v_get C inX3_takeSample_X3 q he rfl 5 (by decide) kwX3_takeSample_22 rfl rfl dX3_takeSample_36 ?_
    refine v_iconst (v := 1) C dX3_takeSample_39 (by decide) ?_
    refine v_iadd C dX3_takeSample_40 ?_
    refine vo_put (ty := .int) C inX3_takeSample_X3 tyX3 tyX3_ok nmX3 q he rfl 5 (by decide) kwX3_takeSample_22 rfl rfl (by decide +kernel) rfl rfl (Nat.le_of_ble_eq_true rfl) dX3_takeSample_41 (fun zw he hO1 => ?_)
    have hO := hO.tr hO1
    refine v_aload_n C dX3_takeSample_44 rfl rfl ?_
    refine v_dup C dX3_takeSample_45 rfl ?_
    refine v_get C inX3_takeSample_X3 q he rfl 4 (by decide) kwX3_takeSample_25 rfl rfl dX3_takeSample_46 ?_
    refine v_at (pc9 := 49) rfl ?_
    refine v_iconst (v := 1) C dX3_takeSample_49 (by decide) ?_
    refine v_iadd C dX3_takeSample_50 ?_
    refine vo_put (ty := .int) C inX3_takeSample_X3 tyX3 tyX3_ok nmX3 q he rfl 4 (by decide) kwX3_takeSample_25 rfl rfl (by decide +kernel) rfl rfl (Nat.le_of_ble_eq_true rfl) dX3_takeSample_51 (fun zw he hO1 => ?_)
    have hO := hO.tr hO1
    refine v_aload_n C dX3_takeSample_54 rfl rfl ?_
    refine v_iload_n C dX3_takeSample_55 rfl rfl ?_
    refine vo_put (ty := .int) C inX3_takeSample_X3 tyX3 tyX3_ok nmX3 q he rfl 3 (by decide) kwX3_takeSample_19 rfl rfl (by decide +kernel) rfl rfl (Nat.le_of_ble_eq_true rfl) dX3_takeSample_56 (fun zw he hO1 => ?_)
    have hO := hO.tr hO1
    refine v_aload_n C dX3_takeSample_59 rfl rfl ?_
    refine v_iload_n C dX3_takeSample_60 rfl rfl ?_
    refine vo_put (ty := .int) C inX3_takeSample_X3 tyX3 tyX3_ok nmX3 q he rfl 2 (by decide) kwX3_takeSample_16 rfl rfl (by decide +kernel) rfl rfl (Nat.le_of_ble_eq_true rfl) dX3_takeSample_61 (fun zw he hO1 => ?_)
    have hO := hO.tr hO1
    have he : zw[q]? = some (a, .inr (4, [.int x, .int f, .int t1, .int z, .int (n + 1), .int (b + 1)])) := he
    refine v_iload C dX3_takeSample_64 rfl ?_
    refine v_at (pc9 := 66) rfl ?_
    exact v_iret C hr dX3_takeSample_66 (Nat.le_refl _) (Nat.le_refl _) ⟨_, rfl, ⟨(if_pos hb).symm, by rw [b01_t hb]; exact he, hw0 ▸ hO⟩⟩
theorem kwX0_init_oi : Cond.methodLink RX0 3 objectInit ∈ wsX0_init := by decide +kernel
theorem kwX0_init_ii : Cond.instanceMethod objectInit ∈ wsX0_init := by decide +kernel
theorem kwX0_init_ci : Cond.code objectInit ⟨#[0xb1]⟩ 1 none ∈ wsX0_init := by decide +kernel
theorem inX0_init_X0 : ∀ x ∈ wsX00, x ∈ wsX0_init := by decide +kernel
theorem kwX0_init_9 : Cond.fieldLink RX0 9 "SeriesMarks$Asking" "marks" "I" ∈ wsX0_init := by decide +kernel
theorem kwX0_init_iniX5 : Cond.initialized RX5 ∈ wsX0_init := by decide +kernel
theorem kwX0_init_stX5_digitsOf : Cond.static yX5_digitsOf ∈ wsX0_init := by decide +kernel
theorem kwX0_init_19 : Cond.fieldLink RX0 19 "SeriesMarks$Asking" "digits" "I" ∈ wsX0_init := by decide +kernel
theorem kwX0_init_22 : Cond.fieldLink RX0 22 "SeriesMarks$Asking" "wantedMark" "I" ∈ wsX0_init := by decide +kernel
theorem kwX0_init_25 : Cond.fieldLink RX0 25 "SeriesMarks$Asking" "wantedValue" "I" ∈ wsX0_init := by decide +kernel
set_option maxHeartbeats 4000000 in
set_option maxRecDepth 100000 in
theorem c_X0_init (l : Launch) (E : gE) (zw : va_W) {q a : Nat} (he : zw[q]? = some (a, .inr (1, [.int 0, .int 0, .int 0, .int 0, .int 0]))) (x y z : Int32) : CtU l yX0_init wsX0_init ({ frames := 2, cells := 0, slots := 0, locals := 43 }) E [.ref a, .int x, .int y, .int z] zw (fun w1 => w1[q]? = some (a, .inr (1, [.int x, .int (dgs x 6), .int y, .int z, .int 0])) ∧ oFr q zw w1) 0 0 := by
  refine Ct.of (cc := cX0_init) (nL := 4) (ret := none) (by decide) rfl (Nat.le_of_ble_eq_true rfl) ?_
  intro p e s m args below meth c C hr hnm
  refine v_eqlv (lv9 := [(0, .ref a), (1, .int x), (2, .int y), (3, .int z)]) rfl ?_
  obtain ⟨w0, hw0⟩ : ∃ w0 : va_W, w0 = zw := ⟨_, rfl⟩
  have hO : oFr q w0 zw := by rw [hw0]; exact ⟨rfl, fun _ _ => rfl⟩
  refine v_aload_n C dX0_init_0 rfl rfl ?_
  refine v_objInit C kwX0_init_oi kwX0_init_ii kwX0_init_ci dX0_init_1 (by decide) (by decide) ?_
  refine v_aload_n C dX0_init_4 rfl rfl ?_
  refine v_iload_n C dX0_init_5 rfl rfl ?_
  refine vo_putF (ty := .int) C inX0_init_X0 tyX0 tyX0_ok nmX0 q he rfl 0 (by decide) kwX0_init_9 rfl rfl hnm rfl (by decide +kernel) rfl rfl (Nat.le_of_ble_eq_true rfl) dX0_init_6 (fun zw he hO1 => ?_)
  have hO := hO.tr hO1
  refine v_aload_n C dX0_init_9 rfl rfl ?_
  refine v_iload_n C dX0_init_10 rfl rfl ?_
  refine v_callSNi C (c_X5_digitsOf l E zw _) ⟨(va_cnB 1 C.1.2.2.2.2 gX0_init_X5_digitsOf_n15 rfl rfl rfl (C.2.2.1.2.2.2.1 (RX0, 15, yX5_digitsOf) (by decide +kernel)) (C.1.2.2.2.2 _ kwX0_init_iniX5) (by decide +kernel) ⟨by decide, by decide⟩), C.1.2.2.2.2 _ kwX0_init_stX5_digitsOf, trivial⟩ rfl rfl (Nat.le_of_ble_eq_true rfl) dX0_init_11 ⟨Nat.le_of_ble_eq_true rfl, Nat.le_of_ble_eq_true rfl⟩ (fun r w1 hp => ?_)
  obtain ⟨rfl, rfl⟩ := hp
  refine vo_putF (ty := .int) C inX0_init_X0 tyX0 tyX0_ok nmX0 q he rfl 1 (by decide) kwX0_init_19 rfl rfl hnm rfl (by decide +kernel) rfl rfl (Nat.le_of_ble_eq_true rfl) dX0_init_14 (fun zw he hO1 => ?_)
  have hO := hO.tr hO1
  refine v_at (pc9 := 17) rfl ?_
  refine v_aload_n C dX0_init_17 rfl rfl ?_
  refine v_iload_n C dX0_init_18 rfl rfl ?_
  refine vo_putF (ty := .int) C inX0_init_X0 tyX0 tyX0_ok nmX0 q he rfl 2 (by decide) kwX0_init_22 rfl rfl hnm rfl (by decide +kernel) rfl rfl (Nat.le_of_ble_eq_true rfl) dX0_init_19 (fun zw he hO1 => ?_)
  have hO := hO.tr hO1
  refine v_aload_n C dX0_init_22 rfl rfl ?_
  refine v_iload_n C dX0_init_23 rfl rfl ?_
  refine vo_putF (ty := .int) C inX0_init_X0 tyX0 tyX0_ok nmX0 q he rfl 3 (by decide) kwX0_init_25 rfl rfl hnm rfl (by decide +kernel) rfl rfl (Nat.le_of_ble_eq_true rfl) dX0_init_24 (fun zw he hO1 => ?_)
  have hO := hO.tr hO1
  exact v_vret C hr dX0_init_27 (Nat.le_refl _) (Nat.le_refl _) ⟨rfl, ⟨he, hw0 ▸ hO⟩⟩
theorem inX0_keyOf_X0 : ∀ x ∈ wsX00, x ∈ wsX0_keyOf := by decide +kernel
theorem kwX0_keyOf_22 : Cond.fieldLink RX0 22 "SeriesMarks$Asking" "wantedMark" "I" ∈ wsX0_keyOf := by decide +kernel
theorem kwX0_keyOf_19 : Cond.fieldLink RX0 19 "SeriesMarks$Asking" "digits" "I" ∈ wsX0_keyOf := by decide +kernel
theorem kwX0_keyOf_iniX5 : Cond.initialized RX5 ∈ wsX0_keyOf := by decide +kernel
theorem kwX0_keyOf_stX5_digit : Cond.static yX5_digit ∈ wsX0_keyOf := by decide +kernel
theorem kwX0_keyOf_25 : Cond.fieldLink RX0 25 "SeriesMarks$Asking" "wantedValue" "I" ∈ wsX0_keyOf := by decide +kernel
set_option maxHeartbeats 4000000 in
set_option maxRecDepth 100000 in
theorem c_X0_keyOf (l : Launch) (E : gE) (zw : va_W) {q a : Nat} {m9 d9 wm wv wo : Int32} (he : zw[q]? = some (a, .inr (1, [.int m9, .int d9, .int wm, .int wv, .int wo]))) (x : Int32) : CtI l yX0_keyOf wsX0_keyOf ({ frames := 1, cells := 0, slots := 0, locals := 21 }) E [.ref a, .int x] zw (fun r w1 => zw = w1 ∧ r = if wm = (-9) ∨ dgt x wm = wv then x &&& d9 else (-9)) 0 0 := by
  refine Ct.of (cc := cX0_keyOf) (nL := 2) (ret := (some .int)) (by decide) rfl (Nat.le_of_ble_eq_true rfl) ?_
  intro p e s m args below meth c C hr hnm
  refine v_eqlv (lv9 := [(0, .ref a), (1, .int x)]) rfl ?_
  refine v_aload_n C dX0_keyOf_0 rfl rfl ?_
  refine v_get C inX0_keyOf_X0 q he rfl 2 (by decide) kwX0_keyOf_22 rfl rfl dX0_keyOf_1 ?_
  refine v_bipush (v := (-9)) C dX0_keyOf_4 (by decide) ?_
  refine v_icmp_eq (tgt := 27) C dX0_keyOf_6 (by decide) (fun c6 => ?_) (fun c6 => ?_)
  · refine v_iload_n C dX0_keyOf_27 rfl rfl ?_
    refine v_aload_n C dX0_keyOf_28 rfl rfl ?_
    refine v_get C inX0_keyOf_X0 q he rfl 1 (by decide) kwX0_keyOf_19 rfl rfl dX0_keyOf_29 ?_
    refine v_iand C dX0_keyOf_32 ?_
    exact v_iret C hr dX0_keyOf_33 (Nat.le_refl _) (Nat.le_refl _) ⟨_, rfl, ⟨rfl, by first | (rw [if_pos (Or.inl c6)]; done) | (rw [if_pos (Or.inr c21)]; done) | (rw [if_neg (fun h => h.elim c6 c21)]; done)⟩⟩
  · refine v_iload_n C dX0_keyOf_9 rfl rfl ?_
    refine v_aload_n C dX0_keyOf_10 rfl rfl ?_
    refine v_get C inX0_keyOf_X0 q he rfl 2 (by decide) kwX0_keyOf_22 rfl rfl dX0_keyOf_11 ?_
    refine v_callSNi C (c_X5_digit l E zw _ _) ⟨(va_cnB 2 C.1.2.2.2.2 gX0_keyOf_X5_digit_n28 rfl rfl rfl (C.2.2.1.2.2.2.1 (RX0, 28, yX5_digit) (by decide +kernel)) (C.1.2.2.2.2 _ kwX0_keyOf_iniX5) (by decide +kernel) ⟨by decide, by decide⟩), C.1.2.2.2.2 _ kwX0_keyOf_stX5_digit, trivial⟩ rfl rfl (Nat.le_of_ble_eq_true rfl) dX0_keyOf_14 ⟨Nat.le_of_ble_eq_true rfl, Nat.le_of_ble_eq_true rfl⟩ (fun r w1 hp => ?_)
    obtain ⟨rfl, rfl⟩ := hp
    refine v_aload_n C dX0_keyOf_17 rfl rfl ?_
    refine v_get C inX0_keyOf_X0 q he rfl 3 (by decide) kwX0_keyOf_25 rfl rfl dX0_keyOf_18 ?_
    refine v_icmp_eq (tgt := 27) C dX0_keyOf_21 (by decide) (fun c21 => ?_) (fun c21 => ?_)
    · refine v_iload_n C dX0_keyOf_27 rfl rfl ?_
      refine v_aload_n C dX0_keyOf_28 rfl rfl ?_
      refine v_get C inX0_keyOf_X0 q he rfl 1 (by decide) kwX0_keyOf_19 rfl rfl dX0_keyOf_29 ?_
      refine v_iand C dX0_keyOf_32 ?_
      exact v_iret C hr dX0_keyOf_33 (Nat.le_refl _) (Nat.le_refl _) ⟨_, rfl, ⟨rfl, by first | (rw [if_pos (Or.inl c6)]; done) | (rw [if_pos (Or.inr c21)]; done) | (rw [if_neg (fun h => h.elim c6 c21)]; done)⟩⟩
    · refine v_bipush (v := (-9)) C dX0_keyOf_24 (by decide) ?_
      exact v_iret C hr dX0_keyOf_26 (Nat.le_refl _) (Nat.le_refl _) ⟨_, rfl, ⟨rfl, by first | (rw [if_pos (Or.inl c6)]; done) | (rw [if_pos (Or.inr c21)]; done) | (rw [if_neg (fun h => h.elim c6 c21)]; done)⟩⟩
theorem inX0_changeWorth_X0 : ∀ x ∈ wsX00, x ∈ wsX0_changeWorth := by decide +kernel
theorem kwX0_changeWorth_32 : Cond.fieldLink RX0 32 "SeriesMarks$Asking" "worth" "I" ∈ wsX0_changeWorth := by decide +kernel
set_option maxHeartbeats 4000000 in
set_option maxRecDepth 100000 in
theorem c_X0_changeWorth (l : Launch) (E : gE) (zw : va_W) {q a : Nat} {m9 d9 wm wv wo : Int32} (he : zw[q]? = some (a, .inr (1, [.int m9, .int d9, .int wm, .int wv, .int wo]))) (x : Int32) : CtI l yX0_changeWorth wsX0_changeWorth ({ frames := 0, cells := 0, slots := 0, locals := 0 }) E [.ref a, .int x] zw (fun r w1 => r = wo ∧ w1[q]? = some (a, .inr (1, [.int m9, .int d9, .int wm, .int wv, .int x])) ∧ oFr q zw w1) 0 0 := by
  refine Ct.of (cc := cX0_changeWorth) (nL := 3) (ret := (some .int)) (by decide) rfl (Nat.le_of_ble_eq_true rfl) ?_
  intro p e s m args below meth c C hr hnm
  refine v_eqlv (lv9 := [(0, .ref a), (1, .int x)]) rfl ?_
  obtain ⟨w0, hw0⟩ : ∃ w0 : va_W, w0 = zw := ⟨_, rfl⟩
  have hO : oFr q w0 zw := by rw [hw0]; exact ⟨rfl, fun _ _ => rfl⟩
  refine v_aload_n C dX0_changeWorth_0 rfl rfl ?_
  refine v_get C inX0_changeWorth_X0 q he rfl 4 (by decide) kwX0_changeWorth_32 rfl rfl dX0_changeWorth_1 ?_
  refine v_istore_n C dX0_changeWorth_4 rfl (by decide) rfl ?_
  refine v_aload_n C dX0_changeWorth_5 rfl rfl ?_
  refine v_iload_n C dX0_changeWorth_6 rfl rfl ?_
  refine vo_put (ty := .int) C inX0_changeWorth_X0 tyX0 tyX0_ok nmX0 q he rfl 4 (by decide) kwX0_changeWorth_32 rfl rfl (by decide +kernel) rfl rfl (Nat.le_of_ble_eq_true rfl) dX0_changeWorth_7 (fun zw he hO1 => ?_)
  have hO := hO.tr hO1
  refine v_iload_n C dX0_changeWorth_10 rfl rfl ?_
  exact v_iret C hr dX0_changeWorth_11 (Nat.le_refl _) (Nat.le_refl _) ⟨_, rfl, ⟨rfl, he, hw0 ▸ hO⟩⟩
theorem inX1_makeEmpty_X1 : ∀ x ∈ wsX10, x ∈ wsX1_makeEmpty := by decide +kernel
theorem kwX1_makeEmpty_15 : Cond.fieldLink RX1 15 "SeriesMarks$NameSet" "size" "I" ∈ wsX1_makeEmpty := by decide +kernel
set_option maxHeartbeats 4000000 in
set_option maxRecDepth 100000 in
theorem c_X1_makeEmpty (l : Launch) (E : gE) (zw : va_W) {q a b : Nat} {n : Int32} (he : zw[q]? = some (a, .inr (2, [.ref b, .int n]))) : CtU l yX1_makeEmpty wsX1_makeEmpty ({ frames := 0, cells := 0, slots := 0, locals := 0 }) E [.ref a] zw (fun w1 => w1[q]? = some (a, .inr (2, [.ref b, .int 0])) ∧ oFr q zw w1) 0 0 := by
  refine Ct.of (cc := cX1_makeEmpty) (nL := 1) (ret := none) (by decide) rfl (Nat.le_of_ble_eq_true rfl) ?_
  intro p e s m args below meth c C hr hnm
  refine v_eqlv (lv9 := [(0, .ref a)]) rfl ?_
  obtain ⟨w0, hw0⟩ : ∃ w0 : va_W, w0 = zw := ⟨_, rfl⟩
  have hO : oFr q w0 zw := by rw [hw0]; exact ⟨rfl, fun _ _ => rfl⟩
  refine v_aload_n C dX1_makeEmpty_0 rfl rfl ?_
  refine v_iconst (v := 0) C dX1_makeEmpty_1 (by decide) ?_
  refine vo_put (ty := .int) C inX1_makeEmpty_X1 tyX1 tyX1_ok nmX1 q he rfl 1 (by decide) kwX1_makeEmpty_15 rfl rfl (by decide +kernel) rfl rfl (Nat.le_of_ble_eq_true rfl) dX1_makeEmpty_2 (fun zw he hO1 => ?_)
  have hO := hO.tr hO1
  exact v_vret C hr dX1_makeEmpty_5 (Nat.le_refl _) (Nat.le_refl _) ⟨rfl, ⟨he, hw0 ▸ hO⟩⟩
