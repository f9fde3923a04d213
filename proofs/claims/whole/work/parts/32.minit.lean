abbrev zI (E : gE) (N q : Nat) : Nat × va_E := (q, .inl (gI E, N, .inl (fun _ => 0)))
abbrev zZ (E : gE) (N q : Nat) : Nat × va_E := (q, .inl (gZ E, N, .inl (fun _ => 0)))
theorem inX6_init_X6 : ∀ x ∈ wsX60, x ∈ wsX6_init := by decide +kernel
theorem kwX6_init_13 : Cond.fieldLink RX6 13 "SeriesMarksModel" "chief" "[I" ∈ wsX6_init := by decide +kernel
set_option maxHeartbeats 4000000 in
set_option maxRecDepth 100000 in
theorem lp_X6_init {p : Program} {l : Launch} {e : Env} {s : State} {m : MethodId} {args : Array Value} {below : List Frame} {meth : Method} {c : Code} {Q : State → Prop} {E : gE} {w0 : va_W} (C : gC p s m args meth c E cX6_init 2 wsX6_init yX6_init.cls) {a b2 : Nat} {fs : List Value} (he0 : w0[12]? = some (a, .inr (7, fs))) (hfs : fs[2]? = some (.ref b2)) (hK : ∀ (zw : va_W) (f : Nat → Int32), oFr 14 w0 zw → zw[14]? = some (b2, .inl (gI E, 9600, .inl f)) → (∀ j, f j = if j < 48 then nI (j % 8) else 0) → V p l e ({ frames := 1, cells := 18, slots := 19686, locals := 20 }) s m args below meth c E 2 zw 18 19686 Q 178 [(0, .ref a), (1, .int (nI 48))] []) : ∀ n i : Nat, i + n = 48 → ∀ (zw : va_W) (f : Nat → Int32), oFr 14 w0 zw → zw[14]? = some (b2, .inl (gI E, 9600, .inl f)) → (∀ j, f j = if j < i then nI (j % 8) else 0) → V p l e ({ frames := 1, cells := 18, slots := 19686, locals := 20 }) s m args below meth c E 2 zw 18 19686 Q 156 [(0, .ref a), (1, .int (nI i))] [] := by
  intro n
  induction n with
  | zero =>
    intro i hi zw f hO ha hf
    obtain rfl : i = 48 := by omega
    refine v_iload_n C dX6_init_156 rfl rfl ?_
    refine v_bipush (v := 48) C dX6_init_157 (by decide) ?_
    refine v_icmp_ge (tgt := 178) C dX6_init_159 (by decide) (fun c159 => ?_) (fun c159 => absurd (by rw [fa_le, ti_48, nI_toInt (by omega)]; omega) c159)
    exact hK zw f hO ha hf
  | succ n ih =>
    intro i hi zw f hO ha hf
    have he := (hO.2 12 (by decide)).trans he0
    refine v_iload_n C dX6_init_156 rfl rfl ?_
    refine v_bipush (v := 48) C dX6_init_157 (by decide) ?_
    refine v_icmp_ge (tgt := 178) C dX6_init_159 (by decide) (fun c159 => absurd c159 (by rw [fa_le, ti_48, nI_toInt (by omega)]; omega)) (fun c159 => ?_)
    refine v_aload_n C dX6_init_162 rfl rfl ?_
    refine v_get (v := .ref b2) C inX6_init_X6 12 he rfl 2 (by decide) kwX6_init_13 rfl hfs dX6_init_163 ?_
    refine v_iload_n C dX6_init_166 rfl rfl ?_
    refine v_iload_n C dX6_init_167 rfl rfl ?_
    refine v_bipush (v := 8) C dX6_init_168 (by decide) ?_
    refine v_irem C dX6_init_170 (by decide) ?_
    refine v_at (pc9 := 171) rfl ?_
    refine v_tov (y := nI (i % 8)) (by rw [show (8 : Int32) = nI 8 from rfl, pk_rem (by omega) (by omega) (by omega)]) ?_
    refine vo_iast C 14 ha (vp_in_nI (by omega) (by decide)) dX6_init_171 (fun zw ha hO1 => ?_)
    rw [nI_clamp (show i < 2 ^ 31 by omega)] at ha
    refine v_iincN C dX6_init_172 rfl (by decide) rfl ?_
    refine v_goto (tgt := 156) C dX6_init_175 (by decide) ?_
    refine ih (i + 1) (by omega) zw _ (hO.tr hO1) ha (fun j => ?_)
    rcases Nat.lt_trichotomy j i with z | z | z
    · rw [pk_un (Nat.ne_of_lt z), hf j, if_pos z, if_pos (by omega)]
    · subst z
      rw [pk_us, if_pos (by omega)]
    · rw [pk_un (Nat.ne_of_gt z), hf j, if_neg (by omega), if_neg (by omega)]
theorem kwX6_init_oi : Cond.methodLink RX6 1 objectInit ∈ wsX6_init := by decide +kernel
theorem kwX6_init_ii : Cond.instanceMethod objectInit ∈ wsX6_init := by decide +kernel
theorem kwX6_init_ci : Cond.code objectInit ⟨#[0xb1]⟩ 1 none ∈ wsX6_init := by decide +kernel
theorem kwX6_init_arrz : Cond.arrayClass .boolean ∈ wsX6_init := by decide +kernel
theorem kwX6_init_7 : Cond.fieldLink RX6 7 "SeriesMarksModel" "dropped" "[Z" ∈ wsX6_init := by decide +kernel
theorem kwX6_init_arri : Cond.arrayClass .int ∈ wsX6_init := by decide +kernel
theorem kwX6_init_17 : Cond.fieldLink RX6 17 "SeriesMarksModel" "name" "[I" ∈ wsX6_init := by decide +kernel
theorem kwX6_init_20 : Cond.fieldLink RX6 20 "SeriesMarksModel" "many" "[I" ∈ wsX6_init := by decide +kernel
theorem kwX6_init_23 : Cond.fieldLink RX6 23 "SeriesMarksModel" "latest" "[I" ∈ wsX6_init := by decide +kernel
theorem kwX6_init_26 : Cond.fieldLink RX6 26 "SeriesMarksModel" "firstTick" "[I" ∈ wsX6_init := by decide +kernel
theorem kwX6_init_29 : Cond.fieldLink RX6 29 "SeriesMarksModel" "lastTick" "[I" ∈ wsX6_init := by decide +kernel
theorem kwX6_init_32 : Cond.fieldLink RX6 32 "SeriesMarksModel" "begun" "[I" ∈ wsX6_init := by decide +kernel
theorem kwX6_init_35 : Cond.fieldLink RX6 35 "SeriesMarksModel" "of" "[I" ∈ wsX6_init := by decide +kernel
theorem kwX6_init_38 : Cond.fieldLink RX6 38 "SeriesMarksModel" "at" "[I" ∈ wsX6_init := by decide +kernel
theorem kwX6_init_41 : Cond.fieldLink RX6 41 "SeriesMarksModel" "grown" "[I" ∈ wsX6_init := by decide +kernel
theorem kwX6_init_44 : Cond.fieldLink RX6 44 "SeriesMarksModel" "isSeen" "[Z" ∈ wsX6_init := by decide +kernel
theorem kwX6_init_47 : Cond.fieldLink RX6 47 "SeriesMarksModel" "unlike" "[I" ∈ wsX6_init := by decide +kernel
theorem kwX6_init_50 : Cond.fieldLink RX6 50 "SeriesMarksModel" "parts" "[I" ∈ wsX6_init := by decide +kernel
theorem kwX6_init_53 : Cond.fieldLink RX6 53 "SeriesMarksModel" "wantedMark" "[I" ∈ wsX6_init := by decide +kernel
theorem kwX6_init_56 : Cond.fieldLink RX6 56 "SeriesMarksModel" "wantedValue" "[I" ∈ wsX6_init := by decide +kernel
theorem kwX6_init_59 : Cond.fieldLink RX6 59 "SeriesMarksModel" "worth" "[I" ∈ wsX6_init := by decide +kernel
theorem kwX6_init_62 : Cond.fieldLink RX6 62 "SeriesMarksModel" "weight" "[I" ∈ wsX6_init := by decide +kernel
set_option maxHeartbeats 4000000 in
set_option maxRecDepth 100000 in
theorem c_X6_init (l : Launch) (E : gE) (zw : va_W) {a : Nat} (he : zw[12]? = some (a, .inr (7, [.int 0, .null, .null, .int 0, .null, .null, .null, .null, .null, .null, .int 0, .null, .null, .null, .null, .int 0, .null, .int 0, .null, .null, .null, .null, .null]))) (hq : zw.length = 13) : CtU l yX6_init wsX6_init ({ frames := 1, cells := 18, slots := 19686, locals := 20 }) E [.ref a] zw (fun w1 => ∃ (ad : Nat → Nat) (f : Nat → Int32), ad 0 = a ∧ mAt w1 (mcl E ad (fun _ => 0) (va_up (fun _ _ => 0) 2 f)) ∧ (∀ j, f j = if j < 48 then nI (j % 8) else 0) ∧ w1.length = 31 ∧ ∀ k, k < 12 → w1[k]? = zw[k]?) 18 19686 := by
  refine Ct.of (cc := cX6_init) (nL := 2) (ret := none) (by decide) rfl (Nat.le_of_ble_eq_true rfl) ?_
  intro p e s m args below meth c C hr hnm
  refine v_eqlv (lv9 := [(0, .ref a)]) rfl ?_
  have hM := bAt.one he
  have hlen : zw.length = 12 + 1 := hq
  have hfr : ∀ k, k < 12 → zw[k]? = zw[k]? := fun _ _ => rfl
  refine v_aload_n C dX6_init_0 rfl rfl ?_
  refine v_objInit C kwX6_init_oi kwX6_init_ii kwX6_init_ci dX6_init_1 (by decide) (by decide) ?_
  refine v_aload_n C dX6_init_4 rfl rfl ?_
  refine v_sipush (v := 1200) C dX6_init_5 (by decide) ?_
  refine vk_newz C hM hlen hfr 1200 kwX6_init_arrz (by decide) (by decide) (by decide) (Nat.le_of_ble_eq_true rfl) (Nat.le_of_ble_eq_true rfl) dX6_init_8 (fun q1 zw hM hlen hfr => ?_)
  have hM : bAt 12 zw [(a, .inr (7, [.int 0, .null, .null, .int 0, .null, .null, .null, .null, .null, .null, .int 0, .null, .null, .null, .null, .int 0, .null, .int 0, .null, .null, .null, .null, .null])), zZ E 1200 q1] := hM
  refine vk_putF (ty := .array .boolean) C hM hlen hfr inX6_init_X6 tyX6 tyX6_ok nmX6 0 rfl rfl 1 (by decide) kwX6_init_7 rfl rfl hnm rfl (by decide +kernel) rfl rfl (Nat.le_of_ble_eq_true rfl) dX6_init_10 (fun zw hM hlen hfr => ?_)
  have hM : bAt 12 zw [(a, .inr (7, [.int 0, .ref q1, .null, .int 0, .null, .null, .null, .null, .null, .null, .int 0, .null, .null, .null, .null, .int 0, .null, .int 0, .null, .null, .null, .null, .null])), zZ E 1200 q1] := hM
  refine v_aload_n C dX6_init_13 rfl rfl ?_
  refine v_sipush (v := 9600) C dX6_init_14 (by decide) ?_
  refine vk_newi C hM hlen hfr 9600 kwX6_init_arri (by decide) (by decide) (by decide) (Nat.le_of_ble_eq_true rfl) (Nat.le_of_ble_eq_true rfl) dX6_init_17 (fun q2 zw hM hlen hfr => ?_)
  have hM : bAt 12 zw [(a, .inr (7, [.int 0, .ref q1, .null, .int 0, .null, .null, .null, .null, .null, .null, .int 0, .null, .null, .null, .null, .int 0, .null, .int 0, .null, .null, .null, .null, .null])), zZ E 1200 q1, zI E 9600 q2] := hM
  refine vk_putF (ty := .array .int) C hM hlen hfr inX6_init_X6 tyX6 tyX6_ok nmX6 0 rfl rfl 2 (by decide) kwX6_init_13 rfl rfl hnm rfl (by decide +kernel) rfl rfl (Nat.le_of_ble_eq_true rfl) dX6_init_19 (fun zw hM hlen hfr => ?_)
  have hM : bAt 12 zw [(a, .inr (7, [.int 0, .ref q1, .ref q2, .int 0, .null, .null, .null, .null, .null, .null, .int 0, .null, .null, .null, .null, .int 0, .null, .int 0, .null, .null, .null, .null, .null])), zZ E 1200 q1, zI E 9600 q2] := hM
  refine v_aload_n C dX6_init_22 rfl rfl ?_
  refine v_bipush (v := 120) C dX6_init_23 (by decide) ?_
  refine vk_newi C hM hlen hfr 120 kwX6_init_arri (by decide) (by decide) (by decide) (Nat.le_of_ble_eq_true rfl) (Nat.le_of_ble_eq_true rfl) dX6_init_25 (fun q4 zw hM hlen hfr => ?_)
  have hM : bAt 12 zw [(a, .inr (7, [.int 0, .ref q1, .ref q2, .int 0, .null, .null, .null, .null, .null, .null, .int 0, .null, .null, .null, .null, .int 0, .null, .int 0, .null, .null, .null, .null, .null])), zZ E 1200 q1, zI E 9600 q2, zI E 120 q4] := hM
  refine vk_putF (ty := .array .int) C hM hlen hfr inX6_init_X6 tyX6 tyX6_ok nmX6 0 rfl rfl 4 (by decide) kwX6_init_17 rfl rfl hnm rfl (by decide +kernel) rfl rfl (Nat.le_of_ble_eq_true rfl) dX6_init_27 (fun zw hM hlen hfr => ?_)
  have hM : bAt 12 zw [(a, .inr (7, [.int 0, .ref q1, .ref q2, .int 0, .ref q4, .null, .null, .null, .null, .null, .int 0, .null, .null, .null, .null, .int 0, .null, .int 0, .null, .null, .null, .null, .null])), zZ E 1200 q1, zI E 9600 q2, zI E 120 q4] := hM
  refine v_aload_n C dX6_init_30 rfl rfl ?_
  refine v_bipush (v := 120) C dX6_init_31 (by decide) ?_
  refine vk_newi C hM hlen hfr 120 kwX6_init_arri (by decide) (by decide) (by decide) (Nat.le_of_ble_eq_true rfl) (Nat.le_of_ble_eq_true rfl) dX6_init_33 (fun q5 zw hM hlen hfr => ?_)
  have hM : bAt 12 zw [(a, .inr (7, [.int 0, .ref q1, .ref q2, .int 0, .ref q4, .null, .null, .null, .null, .null, .int 0, .null, .null, .null, .null, .int 0, .null, .int 0, .null, .null, .null, .null, .null])), zZ E 1200 q1, zI E 9600 q2, zI E 120 q4, zI E 120 q5] := hM
  refine vk_putF (ty := .array .int) C hM hlen hfr inX6_init_X6 tyX6 tyX6_ok nmX6 0 rfl rfl 5 (by decide) kwX6_init_20 rfl rfl hnm rfl (by decide +kernel) rfl rfl (Nat.le_of_ble_eq_true rfl) dX6_init_35 (fun zw hM hlen hfr => ?_)
  have hM : bAt 12 zw [(a, .inr (7, [.int 0, .ref q1, .ref q2, .int 0, .ref q4, .ref q5, .null, .null, .null, .null, .int 0, .null, .null, .null, .null, .int 0, .null, .int 0, .null, .null, .null, .null, .null])), zZ E 1200 q1, zI E 9600 q2, zI E 120 q4, zI E 120 q5] := hM
  refine v_aload_n C dX6_init_38 rfl rfl ?_
  refine v_bipush (v := 120) C dX6_init_39 (by decide) ?_
  refine vk_newi C hM hlen hfr 120 kwX6_init_arri (by decide) (by decide) (by decide) (Nat.le_of_ble_eq_true rfl) (Nat.le_of_ble_eq_true rfl) dX6_init_41 (fun q6 zw hM hlen hfr => ?_)
  have hM : bAt 12 zw [(a, .inr (7, [.int 0, .ref q1, .ref q2, .int 0, .ref q4, .ref q5, .null, .null, .null, .null, .int 0, .null, .null, .null, .null, .int 0, .null, .int 0, .null, .null, .null, .null, .null])), zZ E 1200 q1, zI E 9600 q2, zI E 120 q4, zI E 120 q5, zI E 120 q6] := hM
  refine vk_putF (ty := .array .int) C hM hlen hfr inX6_init_X6 tyX6 tyX6_ok nmX6 0 rfl rfl 6 (by decide) kwX6_init_23 rfl rfl hnm rfl (by decide +kernel) rfl rfl (Nat.le_of_ble_eq_true rfl) dX6_init_43 (fun zw hM hlen hfr => ?_)
  have hM : bAt 12 zw [(a, .inr (7, [.int 0, .ref q1, .ref q2, .int 0, .ref q4, .ref q5, .ref q6, .null, .null, .null, .int 0, .null, .null, .null, .null, .int 0, .null, .int 0, .null, .null, .null, .null, .null])), zZ E 1200 q1, zI E 9600 q2, zI E 120 q4, zI E 120 q5, zI E 120 q6] := hM
  refine v_aload_n C dX6_init_46 rfl rfl ?_
  refine v_bipush (v := 120) C dX6_init_47 (by decide) ?_
  refine vk_newi C hM hlen hfr 120 kwX6_init_arri (by decide) (by decide) (by decide) (Nat.le_of_ble_eq_true rfl) (Nat.le_of_ble_eq_true rfl) dX6_init_49 (fun q7 zw hM hlen hfr => ?_)
  have hM : bAt 12 zw [(a, .inr (7, [.int 0, .ref q1, .ref q2, .int 0, .ref q4, .ref q5, .ref q6, .null, .null, .null, .int 0, .null, .null, .null, .null, .int 0, .null, .int 0, .null, .null, .null, .null, .null])), zZ E 1200 q1, zI E 9600 q2, zI E 120 q4, zI E 120 q5, zI E 120 q6, zI E 120 q7] := hM
  refine vk_putF (ty := .array .int) C hM hlen hfr inX6_init_X6 tyX6 tyX6_ok nmX6 0 rfl rfl 7 (by decide) kwX6_init_26 rfl rfl hnm rfl (by decide +kernel) rfl rfl (Nat.le_of_ble_eq_true rfl) dX6_init_51 (fun zw hM hlen hfr => ?_)
  have hM : bAt 12 zw [(a, .inr (7, [.int 0, .ref q1, .ref q2, .int 0, .ref q4, .ref q5, .ref q6, .ref q7, .null, .null, .int 0, .null, .null, .null, .null, .int 0, .null, .int 0, .null, .null, .null, .null, .null])), zZ E 1200 q1, zI E 9600 q2, zI E 120 q4, zI E 120 q5, zI E 120 q6, zI E 120 q7] := hM
  refine v_aload_n C dX6_init_54 rfl rfl ?_
  refine v_bipush (v := 120) C dX6_init_55 (by decide) ?_
  refine vk_newi C hM hlen hfr 120 kwX6_init_arri (by decide) (by decide) (by decide) (Nat.le_of_ble_eq_true rfl) (Nat.le_of_ble_eq_true rfl) dX6_init_57 (fun q8 zw hM hlen hfr => ?_)
  have hM : bAt 12 zw [(a, .inr (7, [.int 0, .ref q1, .ref q2, .int 0, .ref q4, .ref q5, .ref q6, .ref q7, .null, .null, .int 0, .null, .null, .null, .null, .int 0, .null, .int 0, .null, .null, .null, .null, .null])), zZ E 1200 q1, zI E 9600 q2, zI E 120 q4, zI E 120 q5, zI E 120 q6, zI E 120 q7, zI E 120 q8] := hM
  refine vk_putF (ty := .array .int) C hM hlen hfr inX6_init_X6 tyX6 tyX6_ok nmX6 0 rfl rfl 8 (by decide) kwX6_init_29 rfl rfl hnm rfl (by decide +kernel) rfl rfl (Nat.le_of_ble_eq_true rfl) dX6_init_59 (fun zw hM hlen hfr => ?_)
  have hM : bAt 12 zw [(a, .inr (7, [.int 0, .ref q1, .ref q2, .int 0, .ref q4, .ref q5, .ref q6, .ref q7, .ref q8, .null, .int 0, .null, .null, .null, .null, .int 0, .null, .int 0, .null, .null, .null, .null, .null])), zZ E 1200 q1, zI E 9600 q2, zI E 120 q4, zI E 120 q5, zI E 120 q6, zI E 120 q7, zI E 120 q8] := hM
  refine v_aload_n C dX6_init_62 rfl rfl ?_
  refine v_bipush (v := 120) C dX6_init_63 (by decide) ?_
  refine vk_newi C hM hlen hfr 120 kwX6_init_arri (by decide) (by decide) (by decide) (Nat.le_of_ble_eq_true rfl) (Nat.le_of_ble_eq_true rfl) dX6_init_65 (fun q9 zw hM hlen hfr => ?_)
  have hM : bAt 12 zw [(a, .inr (7, [.int 0, .ref q1, .ref q2, .int 0, .ref q4, .ref q5, .ref q6, .ref q7, .ref q8, .null, .int 0, .null, .null, .null, .null, .int 0, .null, .int 0, .null, .null, .null, .null, .null])), zZ E 1200 q1, zI E 9600 q2, zI E 120 q4, zI E 120 q5, zI E 120 q6, zI E 120 q7, zI E 120 q8, zI E 120 q9] := hM
  refine vk_putF (ty := .array .int) C hM hlen hfr inX6_init_X6 tyX6 tyX6_ok nmX6 0 rfl rfl 9 (by decide) kwX6_init_32 rfl rfl hnm rfl (by decide +kernel) rfl rfl (Nat.le_of_ble_eq_true rfl) dX6_init_67 (fun zw hM hlen hfr => ?_)
  have hM : bAt 12 zw [(a, .inr (7, [.int 0, .ref q1, .ref q2, .int 0, .ref q4, .ref q5, .ref q6, .ref q7, .ref q8, .ref q9, .int 0, .null, .null, .null, .null, .int 0, .null, .int 0, .null, .null, .null, .null, .null])), zZ E 1200 q1, zI E 9600 q2, zI E 120 q4, zI E 120 q5, zI E 120 q6, zI E 120 q7, zI E 120 q8, zI E 120 q9] := hM
  refine v_aload_n C dX6_init_70 rfl rfl ?_
  refine v_sipush (v := 2000) C dX6_init_71 (by decide) ?_
  refine vk_newi C hM hlen hfr 2000 kwX6_init_arri (by decide) (by decide) (by decide) (Nat.le_of_ble_eq_true rfl) (Nat.le_of_ble_eq_true rfl) dX6_init_74 (fun q11 zw hM hlen hfr => ?_)
  have hM : bAt 12 zw [(a, .inr (7, [.int 0, .ref q1, .ref q2, .int 0, .ref q4, .ref q5, .ref q6, .ref q7, .ref q8, .ref q9, .int 0, .null, .null, .null, .null, .int 0, .null, .int 0, .null, .null, .null, .null, .null])), zZ E 1200 q1, zI E 9600 q2, zI E 120 q4, zI E 120 q5, zI E 120 q6, zI E 120 q7, zI E 120 q8, zI E 120 q9, zI E 2000 q11] := hM
  refine vk_putF (ty := .array .int) C hM hlen hfr inX6_init_X6 tyX6 tyX6_ok nmX6 0 rfl rfl 11 (by decide) kwX6_init_35 rfl rfl hnm rfl (by decide +kernel) rfl rfl (Nat.le_of_ble_eq_true rfl) dX6_init_76 (fun zw hM hlen hfr => ?_)
  have hM : bAt 12 zw [(a, .inr (7, [.int 0, .ref q1, .ref q2, .int 0, .ref q4, .ref q5, .ref q6, .ref q7, .ref q8, .ref q9, .int 0, .ref q11, .null, .null, .null, .int 0, .null, .int 0, .null, .null, .null, .null, .null])), zZ E 1200 q1, zI E 9600 q2, zI E 120 q4, zI E 120 q5, zI E 120 q6, zI E 120 q7, zI E 120 q8, zI E 120 q9, zI E 2000 q11] := hM
  refine v_aload_n C dX6_init_79 rfl rfl ?_
  refine v_sipush (v := 2000) C dX6_init_80 (by decide) ?_
  refine vk_newi C hM hlen hfr 2000 kwX6_init_arri (by decide) (by decide) (by decide) (Nat.le_of_ble_eq_true rfl) (Nat.le_of_ble_eq_true rfl) dX6_init_83 (fun q12 zw hM hlen hfr => ?_)
  have hM : bAt 12 zw [(a, .inr (7, [.int 0, .ref q1, .ref q2, .int 0, .ref q4, .ref q5, .ref q6, .ref q7, .ref q8, .ref q9, .int 0, .ref q11, .null, .null, .null, .int 0, .null, .int 0, .null, .null, .null, .null, .null])), zZ E 1200 q1, zI E 9600 q2, zI E 120 q4, zI E 120 q5, zI E 120 q6, zI E 120 q7, zI E 120 q8, zI E 120 q9, zI E 2000 q11, zI E 2000 q12] := hM
  refine vk_putF (ty := .array .int) C hM hlen hfr inX6_init_X6 tyX6 tyX6_ok nmX6 0 rfl rfl 12 (by decide) kwX6_init_38 rfl rfl hnm rfl (by decide +kernel) rfl rfl (Nat.le_of_ble_eq_true rfl) dX6_init_85 (fun zw hM hlen hfr => ?_)
  have hM : bAt 12 zw [(a, .inr (7, [.int 0, .ref q1, .ref q2, .int 0, .ref q4, .ref q5, .ref q6, .ref q7, .ref q8, .ref q9, .int 0, .ref q11, .ref q12, .null, .null, .int 0, .null, .int 0, .null, .null, .null, .null, .null])), zZ E 1200 q1, zI E 9600 q2, zI E 120 q4, zI E 120 q5, zI E 120 q6, zI E 120 q7, zI E 120 q8, zI E 120 q9, zI E 2000 q11, zI E 2000 q12] := hM
  refine v_aload_n C dX6_init_88 rfl rfl ?_
  refine v_sipush (v := 2000) C dX6_init_89 (by decide) ?_
  refine vk_newi C hM hlen hfr 2000 kwX6_init_arri (by decide) (by decide) (by decide) (Nat.le_of_ble_eq_true rfl) (Nat.le_of_ble_eq_true rfl) dX6_init_92 (fun q13 zw hM hlen hfr => ?_)
  have hM : bAt 12 zw [(a, .inr (7, [.int 0, .ref q1, .ref q2, .int 0, .ref q4, .ref q5, .ref q6, .ref q7, .ref q8, .ref q9, .int 0, .ref q11, .ref q12, .null, .null, .int 0, .null, .int 0, .null, .null, .null, .null, .null])), zZ E 1200 q1, zI E 9600 q2, zI E 120 q4, zI E 120 q5, zI E 120 q6, zI E 120 q7, zI E 120 q8, zI E 120 q9, zI E 2000 q11, zI E 2000 q12, zI E 2000 q13] := hM
  refine vk_putF (ty := .array .int) C hM hlen hfr inX6_init_X6 tyX6 tyX6_ok nmX6 0 rfl rfl 13 (by decide) kwX6_init_41 rfl rfl hnm rfl (by decide +kernel) rfl rfl (Nat.le_of_ble_eq_true rfl) dX6_init_94 (fun zw hM hlen hfr => ?_)
  have hM : bAt 12 zw [(a, .inr (7, [.int 0, .ref q1, .ref q2, .int 0, .ref q4, .ref q5, .ref q6, .ref q7, .ref q8, .ref q9, .int 0, .ref q11, .ref q12, .ref q13, .null, .int 0, .null, .int 0, .null, .null, .null, .null, .null])), zZ E 1200 q1, zI E 9600 q2, zI E 120 q4, zI E 120 q5, zI E 120 q6, zI E 120 q7, zI E 120 q8, zI E 120 q9, zI E 2000 q11, zI E 2000 q12, zI E 2000 q13] := hM
  refine v_aload_n C dX6_init_97 rfl rfl ?_
  refine v_bipush (v := 120) C dX6_init_98 (by decide) ?_
  refine vk_newz C hM hlen hfr 120 kwX6_init_arrz (by decide) (by decide) (by decide) (Nat.le_of_ble_eq_true rfl) (Nat.le_of_ble_eq_true rfl) dX6_init_100 (fun q14 zw hM hlen hfr => ?_)
  have hM : bAt 12 zw [(a, .inr (7, [.int 0, .ref q1, .ref q2, .int 0, .ref q4, .ref q5, .ref q6, .ref q7, .ref q8, .ref q9, .int 0, .ref q11, .ref q12, .ref q13, .null, .int 0, .null, .int 0, .null, .null, .null, .null, .null])), zZ E 1200 q1, zI E 9600 q2, zI E 120 q4, zI E 120 q5, zI E 120 q6, zI E 120 q7, zI E 120 q8, zI E 120 q9, zI E 2000 q11, zI E 2000 q12, zI E 2000 q13, zZ E 120 q14] := hM
  refine vk_putF (ty := .array .boolean) C hM hlen hfr inX6_init_X6 tyX6 tyX6_ok nmX6 0 rfl rfl 14 (by decide) kwX6_init_44 rfl rfl hnm rfl (by decide +kernel) rfl rfl (Nat.le_of_ble_eq_true rfl) dX6_init_102 (fun zw hM hlen hfr => ?_)
  have hM : bAt 12 zw [(a, .inr (7, [.int 0, .ref q1, .ref q2, .int 0, .ref q4, .ref q5, .ref q6, .ref q7, .ref q8, .ref q9, .int 0, .ref q11, .ref q12, .ref q13, .ref q14, .int 0, .null, .int 0, .null, .null, .null, .null, .null])), zZ E 1200 q1, zI E 9600 q2, zI E 120 q4, zI E 120 q5, zI E 120 q6, zI E 120 q7, zI E 120 q8, zI E 120 q9, zI E 2000 q11, zI E 2000 q12, zI E 2000 q13, zZ E 120 q14] := hM
  refine v_aload_n C dX6_init_105 rfl rfl ?_
  refine v_sipush (v := 2000) C dX6_init_106 (by decide) ?_
  refine vk_newi C hM hlen hfr 2000 kwX6_init_arri (by decide) (by decide) (by decide) (Nat.le_of_ble_eq_true rfl) (Nat.le_of_ble_eq_true rfl) dX6_init_109 (fun q16 zw hM hlen hfr => ?_)
  have hM : bAt 12 zw [(a, .inr (7, [.int 0, .ref q1, .ref q2, .int 0, .ref q4, .ref q5, .ref q6, .ref q7, .ref q8, .ref q9, .int 0, .ref q11, .ref q12, .ref q13, .ref q14, .int 0, .null, .int 0, .null, .null, .null, .null, .null])), zZ E 1200 q1, zI E 9600 q2, zI E 120 q4, zI E 120 q5, zI E 120 q6, zI E 120 q7, zI E 120 q8, zI E 120 q9, zI E 2000 q11, zI E 2000 q12, zI E 2000 q13, zZ E 120 q14, zI E 2000 q16] := hM
  refine vk_putF (ty := .array .int) C hM hlen hfr inX6_init_X6 tyX6 tyX6_ok nmX6 0 rfl rfl 16 (by decide) kwX6_init_47 rfl rfl hnm rfl (by decide +kernel) rfl rfl (Nat.le_of_ble_eq_true rfl) dX6_init_111 (fun zw hM hlen hfr => ?_)
  have hM : bAt 12 zw [(a, .inr (7, [.int 0, .ref q1, .ref q2, .int 0, .ref q4, .ref q5, .ref q6, .ref q7, .ref q8, .ref q9, .int 0, .ref q11, .ref q12, .ref q13, .ref q14, .int 0, .ref q16, .int 0, .null, .null, .null, .null, .null])), zZ E 1200 q1, zI E 9600 q2, zI E 120 q4, zI E 120 q5, zI E 120 q6, zI E 120 q7, zI E 120 q8, zI E 120 q9, zI E 2000 q11, zI E 2000 q12, zI E 2000 q13, zZ E 120 q14, zI E 2000 q16] := hM
  refine v_aload_n C dX6_init_114 rfl rfl ?_
  refine v_bipush (v := 10) C dX6_init_115 (by decide) ?_
  refine vk_newi C hM hlen hfr 10 kwX6_init_arri (by decide) (by decide) (by decide) (Nat.le_of_ble_eq_true rfl) (Nat.le_of_ble_eq_true rfl) dX6_init_117 (fun q18 zw hM hlen hfr => ?_)
  have hM : bAt 12 zw [(a, .inr (7, [.int 0, .ref q1, .ref q2, .int 0, .ref q4, .ref q5, .ref q6, .ref q7, .ref q8, .ref q9, .int 0, .ref q11, .ref q12, .ref q13, .ref q14, .int 0, .ref q16, .int 0, .null, .null, .null, .null, .null])), zZ E 1200 q1, zI E 9600 q2, zI E 120 q4, zI E 120 q5, zI E 120 q6, zI E 120 q7, zI E 120 q8, zI E 120 q9, zI E 2000 q11, zI E 2000 q12, zI E 2000 q13, zZ E 120 q14, zI E 2000 q16, zI E 10 q18] := hM
  refine vk_putF (ty := .array .int) C hM hlen hfr inX6_init_X6 tyX6 tyX6_ok nmX6 0 rfl rfl 18 (by decide) kwX6_init_50 rfl rfl hnm rfl (by decide +kernel) rfl rfl (Nat.le_of_ble_eq_true rfl) dX6_init_119 (fun zw hM hlen hfr => ?_)
  have hM : bAt 12 zw [(a, .inr (7, [.int 0, .ref q1, .ref q2, .int 0, .ref q4, .ref q5, .ref q6, .ref q7, .ref q8, .ref q9, .int 0, .ref q11, .ref q12, .ref q13, .ref q14, .int 0, .ref q16, .int 0, .ref q18, .null, .null, .null, .null])), zZ E 1200 q1, zI E 9600 q2, zI E 120 q4, zI E 120 q5, zI E 120 q6, zI E 120 q7, zI E 120 q8, zI E 120 q9, zI E 2000 q11, zI E 2000 q12, zI E 2000 q13, zZ E 120 q14, zI E 2000 q16, zI E 10 q18] := hM
  refine v_aload_n C dX6_init_122 rfl rfl ?_
  refine v_bipush (v := 10) C dX6_init_123 (by decide) ?_
  refine vk_newi C hM hlen hfr 10 kwX6_init_arri (by decide) (by decide) (by decide) (Nat.le_of_ble_eq_true rfl) (Nat.le_of_ble_eq_true rfl) dX6_init_125 (fun q19 zw hM hlen hfr => ?_)
  have hM : bAt 12 zw [(a, .inr (7, [.int 0, .ref q1, .ref q2, .int 0, .ref q4, .ref q5, .ref q6, .ref q7, .ref q8, .ref q9, .int 0, .ref q11, .ref q12, .ref q13, .ref q14, .int 0, .ref q16, .int 0, .ref q18, .null, .null, .null, .null])), zZ E 1200 q1, zI E 9600 q2, zI E 120 q4, zI E 120 q5, zI E 120 q6, zI E 120 q7, zI E 120 q8, zI E 120 q9, zI E 2000 q11, zI E 2000 q12, zI E 2000 q13, zZ E 120 q14, zI E 2000 q16, zI E 10 q18, zI E 10 q19] := hM
  refine vk_putF (ty := .array .int) C hM hlen hfr inX6_init_X6 tyX6 tyX6_ok nmX6 0 rfl rfl 19 (by decide) kwX6_init_53 rfl rfl hnm rfl (by decide +kernel) rfl rfl (Nat.le_of_ble_eq_true rfl) dX6_init_127 (fun zw hM hlen hfr => ?_)
  have hM : bAt 12 zw [(a, .inr (7, [.int 0, .ref q1, .ref q2, .int 0, .ref q4, .ref q5, .ref q6, .ref q7, .ref q8, .ref q9, .int 0, .ref q11, .ref q12, .ref q13, .ref q14, .int 0, .ref q16, .int 0, .ref q18, .ref q19, .null, .null, .null])), zZ E 1200 q1, zI E 9600 q2, zI E 120 q4, zI E 120 q5, zI E 120 q6, zI E 120 q7, zI E 120 q8, zI E 120 q9, zI E 2000 q11, zI E 2000 q12, zI E 2000 q13, zZ E 120 q14, zI E 2000 q16, zI E 10 q18, zI E 10 q19] := hM
  refine v_aload_n C dX6_init_130 rfl rfl ?_
  refine v_bipush (v := 10) C dX6_init_131 (by decide) ?_
  refine vk_newi C hM hlen hfr 10 kwX6_init_arri (by decide) (by decide) (by decide) (Nat.le_of_ble_eq_true rfl) (Nat.le_of_ble_eq_true rfl) dX6_init_133 (fun q20 zw hM hlen hfr => ?_)
  have hM : bAt 12 zw [(a, .inr (7, [.int 0, .ref q1, .ref q2, .int 0, .ref q4, .ref q5, .ref q6, .ref q7, .ref q8, .ref q9, .int 0, .ref q11, .ref q12, .ref q13, .ref q14, .int 0, .ref q16, .int 0, .ref q18, .ref q19, .null, .null, .null])), zZ E 1200 q1, zI E 9600 q2, zI E 120 q4, zI E 120 q5, zI E 120 q6, zI E 120 q7, zI E 120 q8, zI E 120 q9, zI E 2000 q11, zI E 2000 q12, zI E 2000 q13, zZ E 120 q14, zI E 2000 q16, zI E 10 q18, zI E 10 q19, zI E 10 q20] := hM
  refine vk_putF (ty := .array .int) C hM hlen hfr inX6_init_X6 tyX6 tyX6_ok nmX6 0 rfl rfl 20 (by decide) kwX6_init_56 rfl rfl hnm rfl (by decide +kernel) rfl rfl (Nat.le_of_ble_eq_true rfl) dX6_init_135 (fun zw hM hlen hfr => ?_)
  have hM : bAt 12 zw [(a, .inr (7, [.int 0, .ref q1, .ref q2, .int 0, .ref q4, .ref q5, .ref q6, .ref q7, .ref q8, .ref q9, .int 0, .ref q11, .ref q12, .ref q13, .ref q14, .int 0, .ref q16, .int 0, .ref q18, .ref q19, .ref q20, .null, .null])), zZ E 1200 q1, zI E 9600 q2, zI E 120 q4, zI E 120 q5, zI E 120 q6, zI E 120 q7, zI E 120 q8, zI E 120 q9, zI E 2000 q11, zI E 2000 q12, zI E 2000 q13, zZ E 120 q14, zI E 2000 q16, zI E 10 q18, zI E 10 q19, zI E 10 q20] := hM
  refine v_aload_n C dX6_init_138 rfl rfl ?_
  refine v_bipush (v := 10) C dX6_init_139 (by decide) ?_
  refine vk_newi C hM hlen hfr 10 kwX6_init_arri (by decide) (by decide) (by decide) (Nat.le_of_ble_eq_true rfl) (Nat.le_of_ble_eq_true rfl) dX6_init_141 (fun q21 zw hM hlen hfr => ?_)
  have hM : bAt 12 zw [(a, .inr (7, [.int 0, .ref q1, .ref q2, .int 0, .ref q4, .ref q5, .ref q6, .ref q7, .ref q8, .ref q9, .int 0, .ref q11, .ref q12, .ref q13, .ref q14, .int 0, .ref q16, .int 0, .ref q18, .ref q19, .ref q20, .null, .null])), zZ E 1200 q1, zI E 9600 q2, zI E 120 q4, zI E 120 q5, zI E 120 q6, zI E 120 q7, zI E 120 q8, zI E 120 q9, zI E 2000 q11, zI E 2000 q12, zI E 2000 q13, zZ E 120 q14, zI E 2000 q16, zI E 10 q18, zI E 10 q19, zI E 10 q20, zI E 10 q21] := hM
  refine vk_putF (ty := .array .int) C hM hlen hfr inX6_init_X6 tyX6 tyX6_ok nmX6 0 rfl rfl 21 (by decide) kwX6_init_59 rfl rfl hnm rfl (by decide +kernel) rfl rfl (Nat.le_of_ble_eq_true rfl) dX6_init_143 (fun zw hM hlen hfr => ?_)
  have hM : bAt 12 zw [(a, .inr (7, [.int 0, .ref q1, .ref q2, .int 0, .ref q4, .ref q5, .ref q6, .ref q7, .ref q8, .ref q9, .int 0, .ref q11, .ref q12, .ref q13, .ref q14, .int 0, .ref q16, .int 0, .ref q18, .ref q19, .ref q20, .ref q21, .null])), zZ E 1200 q1, zI E 9600 q2, zI E 120 q4, zI E 120 q5, zI E 120 q6, zI E 120 q7, zI E 120 q8, zI E 120 q9, zI E 2000 q11, zI E 2000 q12, zI E 2000 q13, zZ E 120 q14, zI E 2000 q16, zI E 10 q18, zI E 10 q19, zI E 10 q20, zI E 10 q21] := hM
  refine v_aload_n C dX6_init_146 rfl rfl ?_
  refine v_bipush (v := 6) C dX6_init_147 (by decide) ?_
  refine vk_newi C hM hlen hfr 6 kwX6_init_arri (by decide) (by decide) (by decide) (Nat.le_of_ble_eq_true rfl) (Nat.le_of_ble_eq_true rfl) dX6_init_149 (fun q22 zw hM hlen hfr => ?_)
  have hM : bAt 12 zw [(a, .inr (7, [.int 0, .ref q1, .ref q2, .int 0, .ref q4, .ref q5, .ref q6, .ref q7, .ref q8, .ref q9, .int 0, .ref q11, .ref q12, .ref q13, .ref q14, .int 0, .ref q16, .int 0, .ref q18, .ref q19, .ref q20, .ref q21, .null])), zZ E 1200 q1, zI E 9600 q2, zI E 120 q4, zI E 120 q5, zI E 120 q6, zI E 120 q7, zI E 120 q8, zI E 120 q9, zI E 2000 q11, zI E 2000 q12, zI E 2000 q13, zZ E 120 q14, zI E 2000 q16, zI E 10 q18, zI E 10 q19, zI E 10 q20, zI E 10 q21, zI E 6 q22] := hM
  refine vk_putF (ty := .array .int) C hM hlen hfr inX6_init_X6 tyX6 tyX6_ok nmX6 0 rfl rfl 22 (by decide) kwX6_init_62 rfl rfl hnm rfl (by decide +kernel) rfl rfl (Nat.le_of_ble_eq_true rfl) dX6_init_151 (fun zw hM hlen hfr => ?_)
  have hM : bAt 12 zw [(a, .inr (7, [.int 0, .ref q1, .ref q2, .int 0, .ref q4, .ref q5, .ref q6, .ref q7, .ref q8, .ref q9, .int 0, .ref q11, .ref q12, .ref q13, .ref q14, .int 0, .ref q16, .int 0, .ref q18, .ref q19, .ref q20, .ref q21, .ref q22])), zZ E 1200 q1, zI E 9600 q2, zI E 120 q4, zI E 120 q5, zI E 120 q6, zI E 120 q7, zI E 120 q8, zI E 120 q9, zI E 2000 q11, zI E 2000 q12, zI E 2000 q13, zZ E 120 q14, zI E 2000 q16, zI E 10 q18, zI E 10 q19, zI E 10 q20, zI E 10 q21, zI E 6 q22] := hM
  refine v_iconst (v := 0) C dX6_init_154 (by decide) ?_
  refine v_tov nI_0.symm ?_
  refine v_istore_n C dX6_init_155 rfl (by decide) rfl ?_
  refine v_eqlv (lv9 := [(0, .ref a), (1, .int (nI 0))]) rfl ?_
  refine v_widen (kc := 18) (ks := 19686) (Nat.le_of_ble_eq_true rfl) (Nat.le_of_ble_eq_true rfl) ?_
  refine lp_X6_init C (hM 0 _ rfl) rfl ?_ 48 0 rfl zw _ ⟨rfl, fun _ _ => rfl⟩ (hM 2 _ rfl) (fun j => (if_neg (Nat.not_lt_zero j)).symm)
  intro w1 f hO ha hf
  have hM := hM.oset (j := 2) rfl ha (fun k _ hk => hO.2 k hk)
  refine v_vret C hr dX6_init_178 (Nat.le_of_ble_eq_true rfl) (Nat.le_of_ble_eq_true rfl) ?_
  exact ⟨rfl, (fun k => if k = 0 then a else if k = 1 then q1 else if k = 2 then q2 else if k = 4 then q4 else if k = 5 then q5 else if k = 6 then q6 else if k = 7 then q7 else if k = 8 then q8 else if k = 9 then q9 else if k = 11 then q11 else if k = 12 then q12 else if k = 13 then q13 else if k = 14 then q14 else if k = 16 then q16 else if k = 18 then q18 else if k = 19 then q19 else if k = 20 then q20 else if k = 21 then q21 else q22), f, rfl, hM, hf, hO.1.trans hlen, fun k hk => (hO.2 k (by omega)).trans (hfr k hk)⟩
