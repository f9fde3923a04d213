theorem inX6_growth_X6 : ∀ x ∈ wsX60, x ∈ wsX6_growth := by decide +kernel
theorem kwX6_growth_81 : Cond.fieldLink RX6 81 "SeriesMarksModel" "series" "I" ∈ wsX6_growth := by decide +kernel
theorem kwX6_growth_c107 : Cond.constantLong RX6 107 (-2) ∈ wsX6_growth := by decide +kernel
theorem kwX6_growth_c97 : Cond.constantLong RX6 97 (-1) ∈ wsX6_growth := by decide +kernel
set_option maxHeartbeats 4000000 in
set_option maxRecDepth 100000 in
theorem c_X6_growth (l : Launch) (E : gE) (zw : va_W) {ad : Nat → Nat} {g : Nat → Int32} {ar : Nat → Nat → Int32} (hM : mAt zw (mcl E ad g ar)) {tk ns np na : Nat} (hI : MI g ar tk ns np na) (i0 f t : Int32) : CtL l yX6_growth wsX6_growth ({ frames := 2, cells := 0, slots := 0, locals := 47 }) E [.ref (ad 0), .int i0, .int f, .int t] zw (fun r w1 => zw = w1 ∧ r = if 0 ≤ i0.toInt ∧ i0.toInt < ns then (if 0 ≤ t.toInt ∧ t.toInt ≤ (g 0).toInt ∧ 0 ≤ f.toInt ∧ f.toInt ≤ t.toInt then smL (fun k => decide (ar 11 k = i0) && inSp (ar 12) f t k) (ar 13) np else (-2)) else (-1)) 0 0 := by
  refine Ct.of (cc := cX6_growth) (nL := 4) (ret := (some .long)) (by decide) rfl (Nat.le_of_ble_eq_true rfl) ?_
  intro p e s m args below meth c C hr hnm
  refine v_eqlv (lv9 := [(0, .ref (ad 0)), (1, .int i0), (2, .int f), (3, .int t)]) rfl ?_
  refine v_iload_n C dX6_growth_0 rfl rfl ?_
  refine v_i2l C dX6_growth_1 rfl ?_
  refine v_lconst (v := 0) C dX6_growth_2 (by decide) ?_
  refine v_aload_n C dX6_growth_3 rfl rfl ?_
  refine vm_get (v := .int (g 3)) C hM inX6_growth_X6 3 (by decide) kwX6_growth_81 rfl rfl dX6_growth_4 ?_
  refine v_iconst (v := 1) C dX6_growth_7 (by decide) ?_
  refine v_isub C dX6_growth_8 ?_
  refine v_i2l C dX6_growth_9 rfl ?_
  refine v_callSi C (c_X6_in l E zw _ _ _) (va_cwS 3 C.1.2.2.2.2 gX6_growth_X6_in rfl rfl rfl (by decide +kernel) ⟨by decide, by decide⟩) rfl rfl (Nat.le_of_ble_eq_true rfl) dX6_growth_10 ⟨Nat.le_of_ble_eq_true rfl, Nat.le_of_ble_eq_true rfl⟩ (fun r w1 hp => ?_)
  obtain ⟨rfl, rfl⟩ := hp
  refine v_at (pc9 := 13) rfl ?_
  refine v_if_ne (tgt := 20) C dX6_growth_13 (by decide) (fun c13 => ?_) (fun c13 => ?_)
  · have c13 := b01_n c13
    simp only [t64, tl_0, hI.ser1] at c13
    refine v_aload_n C dX6_growth_20 rfl rfl ?_
    refine v_iload_n C dX6_growth_21 rfl rfl ?_
    refine v_iload_n C dX6_growth_22 rfl rfl ?_
    refine v_callVi C (c_X6_isSpan l E zw hM _ _) (cwV 2 C.1.2.2.2.2 gX6_growth_X6_isSpan rfl rfl rfl (by decide +kernel) ⟨by decide, by decide⟩) 12 7 (hM 0 _ rfl) rfl rfl rfl (Nat.le_of_ble_eq_true rfl) dX6_growth_23 ⟨Nat.le_of_ble_eq_true rfl, Nat.le_of_ble_eq_true rfl⟩ (fun r w1 hp => ?_)
    obtain ⟨rfl, rfl⟩ := hp
    refine v_if_eq (tgt := 39) C dX6_growth_26 (by decide) (fun c26 => ?_) (fun c26 => ?_)
    · have c26 := b01_0 c26
      refine v_ldc2 C kwX6_growth_c107 dX6_growth_39 ?_
      exact v_lret C hr dX6_growth_42 (Nat.le_refl _) (Nat.le_refl _) ⟨_, rfl, ⟨rfl, by first | (rw [if_pos (show 0 ≤ i0.toInt ∧ i0.toInt < ns by omega), if_pos c26]; done) | (rw [if_pos (show 0 ≤ i0.toInt ∧ i0.toInt < ns by omega), if_neg c26]; done) | (rw [if_neg (show ¬ (0 ≤ i0.toInt ∧ i0.toInt < ns) by omega)]; done)⟩⟩
    · have c26 := b01_n c26
      refine v_aload_n C dX6_growth_29 rfl rfl ?_
      refine v_iload_n C dX6_growth_30 rfl rfl ?_
      refine v_iload_n C dX6_growth_31 rfl rfl ?_
      refine v_iload_n C dX6_growth_32 rfl rfl ?_
      refine v_callVl C (c_X6_growthOf l E zw hM hI _ _ _) (cwV 3 C.1.2.2.2.2 gX6_growth_X6_growthOf rfl rfl rfl (by decide +kernel) ⟨by decide, by decide⟩) 12 7 (hM 0 _ rfl) rfl rfl rfl (Nat.le_of_ble_eq_true rfl) dX6_growth_33 ⟨Nat.le_of_ble_eq_true rfl, Nat.le_of_ble_eq_true rfl⟩ (fun r w1 hp => ?_)
      obtain ⟨rfl, rfl⟩ := hp
      refine v_goto (tgt := 42) C dX6_growth_36 (by decide) ?_
      exact v_lret C hr dX6_growth_42 (Nat.le_refl _) (Nat.le_refl _) ⟨_, rfl, ⟨rfl, by first | (rw [if_pos (show 0 ≤ i0.toInt ∧ i0.toInt < ns by omega), if_pos c26]; done) | (rw [if_pos (show 0 ≤ i0.toInt ∧ i0.toInt < ns by omega), if_neg c26]; done) | (rw [if_neg (show ¬ (0 ≤ i0.toInt ∧ i0.toInt < ns) by omega)]; done)⟩⟩
  · have c13 := b01_0 c13
    simp only [t64, tl_0, hI.ser1] at c13
    refine v_ldc2 C kwX6_growth_c97 dX6_growth_16 ?_
    exact v_lret C hr dX6_growth_19 (Nat.le_refl _) (Nat.le_refl _) ⟨_, rfl, ⟨rfl, by first | (rw [if_pos (show 0 ≤ i0.toInt ∧ i0.toInt < ns by omega), if_pos c26]; done) | (rw [if_pos (show 0 ≤ i0.toInt ∧ i0.toInt < ns by omega), if_neg c26]; done) | (rw [if_neg (show ¬ (0 ≤ i0.toInt ∧ i0.toInt < ns) by omega)]; done)⟩⟩
/-- what a series is asked for -/
def serW (ar : Nat → Nat → Int32) (i : Nat) (x : Int32) : Int32 := if x = 0 then ar 4 i else if x = 1 then ar 5 i else if x = 2 then ar 6 i else if x = 3 then ar 7 i else if x = 4 then ar 8 i else if x = 5 then ar 9 i else (-2)
theorem inX6_series_X6 : ∀ x ∈ wsX60, x ∈ wsX6_series := by decide +kernel
theorem kwX6_series_81 : Cond.fieldLink RX6 81 "SeriesMarksModel" "series" "I" ∈ wsX6_series := by decide +kernel
theorem kwX6_series_17 : Cond.fieldLink RX6 17 "SeriesMarksModel" "name" "[I" ∈ wsX6_series := by decide +kernel
theorem kwX6_series_20 : Cond.fieldLink RX6 20 "SeriesMarksModel" "many" "[I" ∈ wsX6_series := by decide +kernel
theorem kwX6_series_23 : Cond.fieldLink RX6 23 "SeriesMarksModel" "latest" "[I" ∈ wsX6_series := by decide +kernel
theorem kwX6_series_26 : Cond.fieldLink RX6 26 "SeriesMarksModel" "firstTick" "[I" ∈ wsX6_series := by decide +kernel
theorem kwX6_series_29 : Cond.fieldLink RX6 29 "SeriesMarksModel" "lastTick" "[I" ∈ wsX6_series := by decide +kernel
theorem kwX6_series_32 : Cond.fieldLink RX6 32 "SeriesMarksModel" "begun" "[I" ∈ wsX6_series := by decide +kernel
set_option maxHeartbeats 4000000 in
set_option maxRecDepth 100000 in
theorem c_X6_series (l : Launch) (E : gE) (zw : va_W) {ad : Nat → Nat} {g : Nat → Int32} {ar : Nat → Nat → Int32} (hM : mAt zw (mcl E ad g ar)) {tk ns np na : Nat} (hI : MI g ar tk ns np na) (i0 x : Int32) : CtI l yX6_series wsX6_series ({ frames := 1, cells := 0, slots := 0, locals := 25 }) E [.ref (ad 0), .int i0, .int x] zw (fun r w1 => zw = w1 ∧ r = if 0 ≤ i0.toInt ∧ i0.toInt < ns then serW ar i0.toNatClampNeg x else (-1)) 0 0 := by
  refine Ct.of (cc := cX6_series) (nL := 3) (ret := (some .int)) (by decide) rfl (Nat.le_of_ble_eq_true rfl) ?_
  intro p e s m args below meth c C hr hnm
  refine v_eqlv (lv9 := [(0, .ref (ad 0)), (1, .int i0), (2, .int x)]) rfl ?_
  refine v_iload_n C dX6_series_0 rfl rfl ?_
  refine v_i2l C dX6_series_1 rfl ?_
  refine v_lconst (v := 0) C dX6_series_2 (by decide) ?_
  refine v_aload_n C dX6_series_3 rfl rfl ?_
  refine vm_get (v := .int (g 3)) C hM inX6_series_X6 3 (by decide) kwX6_series_81 rfl rfl dX6_series_4 ?_
  refine v_iconst (v := 1) C dX6_series_7 (by decide) ?_
  refine v_isub C dX6_series_8 ?_
  refine v_i2l C dX6_series_9 rfl ?_
  refine v_callSi C (c_X6_in l E zw _ _ _) (va_cwS 3 C.1.2.2.2.2 gX6_series_X6_in rfl rfl rfl (by decide +kernel) ⟨by decide, by decide⟩) rfl rfl (Nat.le_of_ble_eq_true rfl) dX6_series_10 ⟨Nat.le_of_ble_eq_true rfl, Nat.le_of_ble_eq_true rfl⟩ (fun r w1 hp => ?_)
  obtain ⟨rfl, rfl⟩ := hp
  refine v_at (pc9 := 13) rfl ?_
  refine v_if_ne (tgt := 18) C dX6_series_13 (by decide) (fun c13 => ?_) (fun c13 => ?_)
  · have c13 := b01_n c13
    simp only [t64, tl_0, hI.ser1] at c13
    refine v_iload_n C dX6_series_18 rfl rfl ?_
    by_cases e0 : x = 0
    · subst e0
      refine v_tableIn (tgt := 56) C dX6_series_19 (by decide) (by decide) rfl (by decide) ?_
      refine v_aload_n C dX6_series_56 rfl rfl ?_
      refine vm_get (v := .ref (ad 4)) C hM inX6_series_X6 4 (by decide) kwX6_series_17 rfl rfl dX6_series_57 ?_
      refine v_iload_n C dX6_series_60 rfl rfl ?_
      refine vm_iald (f := ar 4) C hM 3 rfl (in_of (by omega) (by have := hI.ser.2; omega)) dX6_series_61 ?_
      exact v_iret C hr dX6_series_62 (Nat.le_refl _) (Nat.le_refl _) ⟨_, rfl, ⟨rfl, by first | (rw [if_pos (show 0 ≤ i0.toInt ∧ i0.toInt < ns by omega)]; simp [serW, *]; done) | (rw [if_neg (show ¬ (0 ≤ i0.toInt ∧ i0.toInt < ns) by omega)]; done)⟩⟩
    · skip
      by_cases e1 : x = 1
      · subst e1
        refine v_tableIn (tgt := 63) C dX6_series_19 (by decide) (by decide) rfl (by decide) ?_
        refine v_aload_n C dX6_series_63 rfl rfl ?_
        refine vm_get (v := .ref (ad 5)) C hM inX6_series_X6 5 (by decide) kwX6_series_20 rfl rfl dX6_series_64 ?_
        refine v_iload_n C dX6_series_67 rfl rfl ?_
        refine vm_iald (f := ar 5) C hM 4 rfl (in_of (by omega) (by have := hI.ser.2; omega)) dX6_series_68 ?_
        exact v_iret C hr dX6_series_69 (Nat.le_refl _) (Nat.le_refl _) ⟨_, rfl, ⟨rfl, by first | (rw [if_pos (show 0 ≤ i0.toInt ∧ i0.toInt < ns by omega)]; simp [serW, *]; done) | (rw [if_neg (show ¬ (0 ≤ i0.toInt ∧ i0.toInt < ns) by omega)]; done)⟩⟩
      · skip
        by_cases e2 : x = 2
        · subst e2
          refine v_tableIn (tgt := 70) C dX6_series_19 (by decide) (by decide) rfl (by decide) ?_
          refine v_aload_n C dX6_series_70 rfl rfl ?_
          refine vm_get (v := .ref (ad 6)) C hM inX6_series_X6 6 (by decide) kwX6_series_23 rfl rfl dX6_series_71 ?_
          refine v_iload_n C dX6_series_74 rfl rfl ?_
          refine vm_iald (f := ar 6) C hM 5 rfl (in_of (by omega) (by have := hI.ser.2; omega)) dX6_series_75 ?_
          exact v_iret C hr dX6_series_76 (Nat.le_refl _) (Nat.le_refl _) ⟨_, rfl, ⟨rfl, by first | (rw [if_pos (show 0 ≤ i0.toInt ∧ i0.toInt < ns by omega)]; simp [serW, *]; done) | (rw [if_neg (show ¬ (0 ≤ i0.toInt ∧ i0.toInt < ns) by omega)]; done)⟩⟩
        · skip
          by_cases e3 : x = 3
          · subst e3
            refine v_tableIn (tgt := 77) C dX6_series_19 (by decide) (by decide) rfl (by decide) ?_
            refine v_aload_n C dX6_series_77 rfl rfl ?_
            refine vm_get (v := .ref (ad 7)) C hM inX6_series_X6 7 (by decide) kwX6_series_26 rfl rfl dX6_series_78 ?_
            refine v_iload_n C dX6_series_81 rfl rfl ?_
            refine vm_iald (f := ar 7) C hM 6 rfl (in_of (by omega) (by have := hI.ser.2; omega)) dX6_series_82 ?_
            exact v_iret C hr dX6_series_83 (Nat.le_refl _) (Nat.le_refl _) ⟨_, rfl, ⟨rfl, by first | (rw [if_pos (show 0 ≤ i0.toInt ∧ i0.toInt < ns by omega)]; simp [serW, *]; done) | (rw [if_neg (show ¬ (0 ≤ i0.toInt ∧ i0.toInt < ns) by omega)]; done)⟩⟩
          · skip
            by_cases e4 : x = 4
            · subst e4
              refine v_tableIn (tgt := 84) C dX6_series_19 (by decide) (by decide) rfl (by decide) ?_
              refine v_aload_n C dX6_series_84 rfl rfl ?_
              refine vm_get (v := .ref (ad 8)) C hM inX6_series_X6 8 (by decide) kwX6_series_29 rfl rfl dX6_series_85 ?_
              refine v_iload_n C dX6_series_88 rfl rfl ?_
              refine vm_iald (f := ar 8) C hM 7 rfl (in_of (by omega) (by have := hI.ser.2; omega)) dX6_series_89 ?_
              exact v_iret C hr dX6_series_90 (Nat.le_refl _) (Nat.le_refl _) ⟨_, rfl, ⟨rfl, by first | (rw [if_pos (show 0 ≤ i0.toInt ∧ i0.toInt < ns by omega)]; simp [serW, *]; done) | (rw [if_neg (show ¬ (0 ≤ i0.toInt ∧ i0.toInt < ns) by omega)]; done)⟩⟩
            · skip
              by_cases e5 : x = 5
              · subst e5
                refine v_tableIn (tgt := 91) C dX6_series_19 (by decide) (by decide) rfl (by decide) ?_
                refine v_aload_n C dX6_series_91 rfl rfl ?_
                refine vm_get (v := .ref (ad 9)) C hM inX6_series_X6 9 (by decide) kwX6_series_32 rfl rfl dX6_series_92 ?_
                refine v_iload_n C dX6_series_95 rfl rfl ?_
                refine vm_iald (f := ar 9) C hM 8 rfl (in_of (by omega) (by have := hI.ser.2; omega)) dX6_series_96 ?_
                exact v_iret C hr dX6_series_97 (Nat.le_refl _) (Nat.le_refl _) ⟨_, rfl, ⟨rfl, by first | (rw [if_pos (show 0 ≤ i0.toInt ∧ i0.toInt < ns by omega)]; simp [serW, *]; done) | (rw [if_neg (show ¬ (0 ≤ i0.toInt ∧ i0.toInt < ns) by omega)]; done)⟩⟩
              · skip
                refine v_tableOut (tgt := 98) C dX6_series_19 (by have h0 := mt (fa_eq x 0).mpr e0; have h1 := mt (fa_eq x 1).mpr e1; have h2 := mt (fa_eq x 2).mpr e2; have h3 := mt (fa_eq x 3).mpr e3; have h4 := mt (fa_eq x 4).mpr e4; have h5 := mt (fa_eq x 5).mpr e5; rw [show (0 : Int32).toInt = 0 from rfl] at h0; rw [show (1 : Int32).toInt = 1 from rfl] at h1; rw [show (2 : Int32).toInt = 2 from rfl] at h2; rw [show (3 : Int32).toInt = 3 from rfl] at h3; rw [show (4 : Int32).toInt = 4 from rfl] at h4; rw [show (5 : Int32).toInt = 5 from rfl] at h5; omega) (by decide) ?_
                refine v_bipush (v := (-2)) C dX6_series_98 (by decide) ?_
                exact v_iret C hr dX6_series_100 (Nat.le_refl _) (Nat.le_refl _) ⟨_, rfl, ⟨rfl, by first | (rw [if_pos (show 0 ≤ i0.toInt ∧ i0.toInt < ns by omega)]; simp [serW, *]; done) | (rw [if_neg (show ¬ (0 ≤ i0.toInt ∧ i0.toInt < ns) by omega)]; done)⟩⟩
  · have c13 := b01_0 c13
    simp only [t64, tl_0, hI.ser1] at c13
    refine v_iconst (v := (-1)) C dX6_series_16 (by decide) ?_
    exact v_iret C hr dX6_series_17 (Nat.le_refl _) (Nat.le_refl _) ⟨_, rfl, ⟨rfl, by first | (rw [if_pos (show 0 ≤ i0.toInt ∧ i0.toInt < ns by omega)]; simp [serW, *]; done) | (rw [if_neg (show ¬ (0 ≤ i0.toInt ∧ i0.toInt < ns) by omega)]; done)⟩⟩
/-- whether a number comes up among those that are wanted; how many unlike ones have come -/
def senB (p : Nat → Bool) (q : Nat → Int32) (i : Nat) : Nat → Bool
  | 0 => false
  | k + 1 => senB p q i k || (p k && decide (q k = nI i))
def lkN (p : Nat → Bool) (q : Nat → Int32) : Nat → Nat
  | 0 => 0
  | k + 1 => bif (p k && !(senB p q (q k).toNatClampNeg k)) then lkN p q k + 1 else lkN p q k
theorem lkN_le (p : Nat → Bool) (q : Nat → Int32) : ∀ k, lkN p q k ≤ k
  | 0 => Nat.le_refl _
  | k + 1 => by
    have := lkN_le p q k
    unfold lkN
    cases (p k && !(senB p q (q k).toNatClampNeg k)) <;> simp <;> omega
theorem bx_k (ar : Nat → Nat → Int32) (k : Nat) : va_up ar k (ar k) = ar := by
  funext j
  by_cases h : j = k
  · subst h; exact va_up_self _ _ _
  · exact va_up_ne _ _ h
theorem inX6_look_X6 : ∀ x ∈ wsX60, x ∈ wsX6_look := by decide +kernel
theorem kwX6_look_81 : Cond.fieldLink RX6 81 "SeriesMarksModel" "series" "I" ∈ wsX6_look := by decide +kernel
theorem kwX6_look_44 : Cond.fieldLink RX6 44 "SeriesMarksModel" "isSeen" "[Z" ∈ wsX6_look := by decide +kernel
set_option maxHeartbeats 4000000 in
set_option maxRecDepth 100000 in
theorem lpA_X6_look {p : Program} {l : Launch} {e : Env} {R : Room} {s : State} {m : MethodId} {args : Array Value} {below : List Frame} {meth : Method} {c : Code} {cells slots : Nat} {Q : State → Prop} {E : gE} {w0 : va_W} (C : gC p s m args meth c E cX6_look 5 wsX6_look yX6_look.cls) {ad : Nat → Nat} {g : Nat → Int32} {ar : Nat → Nat → Int32} {tk ns np na : Nat} (hI : MI g ar tk ns np na) {f t : Int32} (hK : ∀ (zw : va_W) (zF : Nat → Int32), mAt zw (mcl E ad g (va_up ar 14 zF)) → mFr w0 zw → (∀ j, j < ns → zF j = 0) → V p l e R s m args below meth c E 5 zw cells slots Q 28 [(0, .ref (ad 0)), (1, .int f), (2, .int t), (3, .int 0), (4, .int (nI ns))] []) : ∀ n i : Nat, i + n = ns → ∀ (zw : va_W) (zF : Nat → Int32), mAt zw (mcl E ad g (va_up ar 14 zF)) → mFr w0 zw → (∀ j, j < i → zF j = 0) → V p l e R s m args below meth c E 5 zw cells slots Q 5 [(0, .ref (ad 0)), (1, .int f), (2, .int t), (3, .int 0), (4, .int (nI i))] [] := by
  intro n
  induction n with
  | zero =>
    intro i hi zw zF hM hF hz
    obtain rfl : i = ns := by omega
    refine v_iload C dX6_look_5 rfl ?_
    refine v_aload_n C dX6_look_7 rfl rfl ?_
    refine vm_get (v := .int (g 3)) C hM inX6_look_X6 3 (by decide) kwX6_look_81 rfl rfl dX6_look_8 ?_
    refine v_icmp_ge (tgt := 28) C dX6_look_11 (by decide) (fun c11 => ?_) (fun c11 => absurd (by rw [hI.2.1.1]; exact nI_le (Nat.le_refl _) (by have := hI.ser.2; omega)) c11)
    exact hK zw zF hM hF hz
  | succ n ih =>
    intro i hi zw zF hM hF hz
    refine v_iload C dX6_look_5 rfl ?_
    refine v_aload_n C dX6_look_7 rfl rfl ?_
    refine vm_get (v := .int (g 3)) C hM inX6_look_X6 3 (by decide) kwX6_look_81 rfl rfl dX6_look_8 ?_
    refine v_icmp_ge (tgt := 28) C dX6_look_11 (by decide) (fun c11 => absurd c11 (by rw [hI.2.1.1]; exact nI_ge (by omega) (by have := hI.ser.2; omega))) (fun c11 => ?_)
    refine v_aload_n C dX6_look_14 rfl rfl ?_
    refine vm_get (v := .ref (ad 14)) C hM inX6_look_X6 14 (by decide) kwX6_look_44 rfl rfl dX6_look_15 ?_
    refine v_iload C dX6_look_18 rfl ?_
    refine v_iconst (v := 0) C dX6_look_20 (by decide) ?_
    refine vm_zast C hM hF 14 12 rfl (vp_in_nI (by have := hI.ser.2; omega) (by decide)) rfl dX6_look_21 (fun zw hM hF => ?_)
    refine v_at (pc9 := 22) rfl ?_
    rw [bx_uu, va_up_self, nI_clamp (show i < 2 ^ 31 by have := hI.ser.2; omega), show vp_nar .boolean 0 = 0 from rfl] at hM
    refine v_iincN C dX6_look_22 rfl (by decide) rfl ?_
    refine v_goto (tgt := 5) C dX6_look_25 (by decide) ?_
    exact ih (i + 1) (by omega) zw _ hM hF (fun j hj => by
      by_cases e : j = i
      · subst e; exact pk_us
      · rw [pk_un e]; exact hz j (by omega))
theorem kwX6_look_94 : Cond.fieldLink RX6 94 "SeriesMarksModel" "samples" "I" ∈ wsX6_look := by decide +kernel
theorem kwX6_look_38 : Cond.fieldLink RX6 38 "SeriesMarksModel" "at" "[I" ∈ wsX6_look := by decide +kernel
theorem kwX6_look_35 : Cond.fieldLink RX6 35 "SeriesMarksModel" "of" "[I" ∈ wsX6_look := by decide +kernel
set_option maxHeartbeats 4000000 in
set_option maxRecDepth 100000 in
theorem lpB_X6_look {p : Program} {l : Launch} {e : Env} {R : Room} {s : State} {m : MethodId} {args : Array Value} {below : List Frame} {meth : Method} {c : Code} {cells slots : Nat} {Q : State → Prop} {E : gE} {w0 : va_W} (C : gC p s m args meth c E cX6_look 5 wsX6_look yX6_look.cls) {ad : Nat → Nat} {g : Nat → Int32} {ar : Nat → Nat → Int32} {tk ns np na : Nat} (hI : MI g ar tk ns np na) {f t : Int32} (hK : ∀ (zw : va_W) (zF : Nat → Int32), mAt zw (mcl E ad g (va_up ar 14 zF)) → mFr w0 zw → (∀ j, j < ns → zF j = b01 (senB (inSp (ar 12) f t) (ar 11) j np = true)) → V p l e R s m args below meth c E 5 zw cells slots Q 99 [(0, .ref (ad 0)), (1, .int f), (2, .int t), (3, .int (nI (lkN (inSp (ar 12) f t) (ar 11) np))), (4, .int (nI np))] []) : ∀ n i : Nat, i + n = np → ∀ (zw : va_W) (zF : Nat → Int32), mAt zw (mcl E ad g (va_up ar 14 zF)) → mFr w0 zw → (∀ j, j < ns → zF j = b01 (senB (inSp (ar 12) f t) (ar 11) j i = true)) → V p l e R s m args below meth c E 5 zw cells slots Q 31 [(0, .ref (ad 0)), (1, .int f), (2, .int t), (3, .int (nI (lkN (inSp (ar 12) f t) (ar 11) i))), (4, .int (nI i))] [] := by
  intro n
  induction n with
  | zero =>
    intro i hi zw zF hM hF hz
    obtain rfl : i = np := by omega
    refine v_iload C dX6_look_31 rfl ?_
    refine v_aload_n C dX6_look_33 rfl rfl ?_
    refine vm_get (v := .int (g 10)) C hM inX6_look_X6 10 (by decide) kwX6_look_94 rfl rfl dX6_look_34 ?_
    refine v_icmp_ge (tgt := 99) C dX6_look_37 (by decide) (fun c37 => ?_) (fun c37 => absurd (by rw [hI.2.2.1.1]; exact nI_le (Nat.le_refl _) (by have := hI.sam.2; omega)) c37)
    exact hK zw zF hM hF hz
  | succ n ih =>
    intro i hi zw zF hM hF hz
    refine v_iload C dX6_look_31 rfl ?_
    refine v_aload_n C dX6_look_33 rfl rfl ?_
    refine vm_get (v := .int (g 10)) C hM inX6_look_X6 10 (by decide) kwX6_look_94 rfl rfl dX6_look_34 ?_
    refine v_icmp_ge (tgt := 99) C dX6_look_37 (by decide) (fun c37 => absurd c37 (by rw [hI.2.2.1.1]; exact nI_ge (by omega) (by have := hI.sam.2; omega))) (fun c37 => ?_)
    refine v_aload_n C dX6_look_40 rfl rfl ?_
    refine vm_get (v := .ref (ad 12)) C hM inX6_look_X6 12 (by decide) kwX6_look_38 rfl rfl dX6_look_41 ?_
    refine v_iload C dX6_look_44 rfl ?_
    refine vm_iald (f := ar 12) C hM 10 rfl (vp_in_nI (by have := hI.sam.2; omega) (by decide)) dX6_look_46 ?_
    rw [nI_clamp (show i < 2 ^ 31 by have := hI.sam.2; omega)]
    refine v_iload_n C dX6_look_47 rfl rfl ?_
    refine v_at (pc9 := 48) rfl ?_
    refine v_icmp_lt (tgt := 93) C dX6_look_48 (by decide) (fun c48 => ?_) (fun c48 => ?_)
    · have hp : (inSp (ar 12) f t) i = false := inSp_lt c48
      have e1 : lkN (inSp (ar 12) f t) (ar 11) (i + 1) = lkN (inSp (ar 12) f t) (ar 11) i := by first | (simp [lkN, hp]; done) | (simp [lkN, hp, ho, nI_clamp (show j0 < 2 ^ 31 by have := hI.ser.2; omega), hs]; done)
      have e2 : ∀ j, j < ns → zF j = b01 (senB (inSp (ar 12) f t) (ar 11) j (i + 1) = true) := fun j hj => by
        rw [hz j hj]
        refine b01_c ?_
        first
        | (simp [senB, hp]; done)
        | (simp only [senB, hp, Bool.true_and, Bool.or_eq_true, decide_eq_true_eq]
           refine ⟨Or.inl, fun h => h.elim id (fun h => ?_)⟩
           have : j0 = j := (nI_eq (by have := hI.ser.2; omega) (by have := hI.ser.2; omega)).mp (ho.symm.trans h)
           rw [← this]; exact hs)
      refine v_iincN C dX6_look_93 rfl (by decide) rfl ?_
      refine v_goto (tgt := 31) C dX6_look_96 (by decide) ?_
      have ih9 := ih (i + 1) (by omega) zw _ hM hF e2
      rw [e1] at ih9
      exact ih9
    · refine v_aload_n C dX6_look_51 rfl rfl ?_
      refine vm_get (v := .ref (ad 12)) C hM inX6_look_X6 12 (by decide) kwX6_look_38 rfl rfl dX6_look_52 ?_
      refine v_iload C dX6_look_55 rfl ?_
      refine vm_iald (f := ar 12) C hM 10 rfl (vp_in_nI (by have := hI.sam.2; omega) (by decide)) dX6_look_57 ?_
      rw [nI_clamp (show i < 2 ^ 31 by have := hI.sam.2; omega)]
      refine v_iload_n C dX6_look_58 rfl rfl ?_
      refine v_icmp_gt (tgt := 93) C dX6_look_59 (by decide) (fun c59 => ?_) (fun c59 => ?_)
      · have hp : (inSp (ar 12) f t) i = false := inSp_gt c59
        have e1 : lkN (inSp (ar 12) f t) (ar 11) (i + 1) = lkN (inSp (ar 12) f t) (ar 11) i := by first | (simp [lkN, hp]; done) | (simp [lkN, hp, ho, nI_clamp (show j0 < 2 ^ 31 by have := hI.ser.2; omega), hs]; done)
        have e2 : ∀ j, j < ns → zF j = b01 (senB (inSp (ar 12) f t) (ar 11) j (i + 1) = true) := fun j hj => by
          rw [hz j hj]
          refine b01_c ?_
          first
          | (simp [senB, hp]; done)
          | (simp only [senB, hp, Bool.true_and, Bool.or_eq_true, decide_eq_true_eq]
             refine ⟨Or.inl, fun h => h.elim id (fun h => ?_)⟩
             have : j0 = j := (nI_eq (by have := hI.ser.2; omega) (by have := hI.ser.2; omega)).mp (ho.symm.trans h)
             rw [← this]; exact hs)
        refine v_iincN C dX6_look_93 rfl (by decide) rfl ?_
        refine v_goto (tgt := 31) C dX6_look_96 (by decide) ?_
        have ih9 := ih (i + 1) (by omega) zw _ hM hF e2
        rw [e1] at ih9
        exact ih9
      · obtain ⟨j0, hj0, ho⟩ := hI.of i (by omega)
        have hp : (inSp (ar 12) f t) i = true := inSp_in c48 c59
        refine v_aload_n C dX6_look_62 rfl rfl ?_
        refine vm_get (v := .ref (ad 14)) C hM inX6_look_X6 14 (by decide) kwX6_look_44 rfl rfl dX6_look_63 ?_
        refine v_aload_n C dX6_look_66 rfl rfl ?_
        refine vm_get (v := .ref (ad 11)) C hM inX6_look_X6 11 (by decide) kwX6_look_35 rfl rfl dX6_look_67 ?_
        refine v_iload C dX6_look_70 rfl ?_
        refine vm_iald (f := ar 11) C hM 9 rfl (vp_in_nI (by have := hI.sam.2; omega) (by decide)) dX6_look_72 ?_
        rw [nI_clamp (show i < 2 ^ 31 by have := hI.sam.2; omega)]
        rw [ho]
        refine vm_zald (f := zF) C hM 12 rfl (vp_in_nI (by have := hI.ser.2; omega) (by decide)) dX6_look_73 ?_
        rw [nI_clamp (show j0 < 2 ^ 31 by have := hI.ser.2; omega)]
        refine v_if_ne (tgt := 93) C dX6_look_74 (by decide) (fun c74 => ?_) (fun c74 => ?_)
        · have hs : senB (inSp (ar 12) f t) (ar 11) j0 i = true := b01_n (by rw [← hz j0 hj0]; exact c74)
          have e1 : lkN (inSp (ar 12) f t) (ar 11) (i + 1) = lkN (inSp (ar 12) f t) (ar 11) i := by first | (simp [lkN, hp]; done) | (simp [lkN, hp, ho, nI_clamp (show j0 < 2 ^ 31 by have := hI.ser.2; omega), hs]; done)
          have e2 : ∀ j, j < ns → zF j = b01 (senB (inSp (ar 12) f t) (ar 11) j (i + 1) = true) := fun j hj => by
            rw [hz j hj]
            refine b01_c ?_
            first
            | (simp [senB, hp]; done)
            | (simp only [senB, hp, Bool.true_and, Bool.or_eq_true, decide_eq_true_eq]
               refine ⟨Or.inl, fun h => h.elim id (fun h => ?_)⟩
               have : j0 = j := (nI_eq (by have := hI.ser.2; omega) (by have := hI.ser.2; omega)).mp (ho.symm.trans h)
               rw [← this]; exact hs)
          refine v_iincN C dX6_look_93 rfl (by decide) rfl ?_
          refine v_goto (tgt := 31) C dX6_look_96 (by decide) ?_
          have ih9 := ih (i + 1) (by omega) zw _ hM hF e2
          rw [e1] at ih9
          exact ih9
        · have hs : senB (inSp (ar 12) f t) (ar 11) j0 i = false := by
            have := b01_0 ((hz j0 hj0).symm.trans c74)
            simpa using this
          refine v_aload_n C dX6_look_77 rfl rfl ?_
          refine vm_get (v := .ref (ad 14)) C hM inX6_look_X6 14 (by decide) kwX6_look_44 rfl rfl dX6_look_78 ?_
          refine v_aload_n C dX6_look_81 rfl rfl ?_
          refine vm_get (v := .ref (ad 11)) C hM inX6_look_X6 11 (by decide) kwX6_look_35 rfl rfl dX6_look_82 ?_
          refine v_iload C dX6_look_85 rfl ?_
          refine vm_iald (f := ar 11) C hM 9 rfl (vp_in_nI (by have := hI.sam.2; omega) (by decide)) dX6_look_87 ?_
          rw [nI_clamp (show i < 2 ^ 31 by have := hI.sam.2; omega)]
          rw [ho]
          refine v_iconst (v := 1) C dX6_look_88 (by decide) ?_
          refine vm_zast C hM hF 14 12 rfl (vp_in_nI (by have := hI.ser.2; omega) (by decide)) rfl dX6_look_89 (fun zw hM hF => ?_)
          rw [bx_uu, va_up_self, nI_clamp (show j0 < 2 ^ 31 by have := hI.ser.2; omega), show vp_nar .boolean 1 = 1 from rfl] at hM
          refine v_iincN C dX6_look_90 rfl (by decide) rfl ?_
          have e1 : lkN (inSp (ar 12) f t) (ar 11) (i + 1) = lkN (inSp (ar 12) f t) (ar 11) i + 1 := by simp [lkN, hp, ho, nI_clamp (show j0 < 2 ^ 31 by have := hI.ser.2; omega), hs]
          have e2 : ∀ j, j < ns → upd zF j0 1 j = b01 (senB (inSp (ar 12) f t) (ar 11) j (i + 1) = true) := fun j hj => by
            by_cases e : j = j0
            · subst e
              rw [pk_us]
              exact (b01_t (by simp [senB, hp, ho])).symm
            · rw [pk_un e, hz j hj]
              refine b01_c ?_
              simp only [senB, hp, Bool.true_and, Bool.or_eq_true, decide_eq_true_eq]
              refine ⟨Or.inl, fun h => h.elim id (fun h => absurd ((nI_eq (by have := hI.ser.2; omega) (by have := hI.ser.2; omega)).mp (ho.symm.trans h)).symm e)⟩
          refine v_iincN C dX6_look_93 rfl (by decide) rfl ?_
          refine v_goto (tgt := 31) C dX6_look_96 (by decide) ?_
          have ih9 := ih (i + 1) (by omega) zw _ hM hF e2
          rw [e1] at ih9
          exact ih9
set_option maxHeartbeats 4000000 in
set_option maxRecDepth 100000 in
theorem c_X6_look (l : Launch) (E : gE) (zw : va_W) {ad : Nat → Nat} {g : Nat → Int32} {ar : Nat → Nat → Int32} (hM : mAt zw (mcl E ad g ar)) {tk ns np na : Nat} (hI : MI g ar tk ns np na) (f t : Int32) : CtI l yX6_look wsX6_look ({ frames := 0, cells := 0, slots := 0, locals := 0 }) E [.ref (ad 0), .int f, .int t] zw (fun r w1 => ∃ zF : Nat → Int32, mAt w1 (mcl E ad g (va_up ar 14 zF)) ∧ mFr zw w1 ∧ (∀ j, j < ns → zF j = b01 (senB (inSp (ar 12) f t) (ar 11) j np = true)) ∧ r = nI (lkN (inSp (ar 12) f t) (ar 11) np)) 0 0 := by
  refine Ct.of (cc := cX6_look) (nL := 5) (ret := (some .int)) (by decide) rfl (Nat.le_of_ble_eq_true rfl) ?_
  intro p e s m args below meth c C hr hnm
  refine v_eqlv (lv9 := [(0, .ref (ad 0)), (1, .int f), (2, .int t)]) rfl ?_
  refine v_iconst (v := 0) C dX6_look_0 (by decide) ?_
  refine v_istore_n C dX6_look_1 rfl (by decide) rfl ?_
  refine v_iconst (v := 0) C dX6_look_2 (by decide) ?_
  refine v_tov nI_0.symm ?_
  refine v_istore C dX6_look_3 (by decide) rfl ?_
  refine lpA_X6_look C hI (w0 := zw) ?_ ns 0 (Nat.zero_add _) zw (ar 14) (by rw [bx_k]; exact hM) (mFr.rf zw) (fun j hj => absurd hj (Nat.not_lt_zero j))
  intro w1 F1 hM1 hF1 hz1
  refine v_iconst (v := 0) C dX6_look_28 (by decide) ?_
  refine v_tov nI_0.symm ?_
  refine v_istore C dX6_look_29 (by decide) rfl ?_
  refine lpB_X6_look C hI (w0 := zw) ?_ np 0 (Nat.zero_add _) w1 F1 hM1 hF1 (fun j hj => (hz1 j hj).trans (b01_f (by simp [senB])).symm)
  intro w2 F2 hM2 hF2 hz2
  refine v_iload_n C dX6_look_99 rfl rfl ?_
  exact v_iret C hr dX6_look_100 (Nat.le_refl _) (Nat.le_refl _) ⟨_, rfl, ⟨F2, hM2, hF2, hz2, rfl⟩⟩
theorem inX6_note_X6 : ∀ x ∈ wsX60, x ∈ wsX6_note := by decide +kernel
theorem kwX6_note_47 : Cond.fieldLink RX6 47 "SeriesMarksModel" "unlike" "[I" ∈ wsX6_note := by decide +kernel
set_option maxHeartbeats 4000000 in
set_option maxRecDepth 100000 in
theorem lpA_X6_note {p : Program} {l : Launch} {e : Env} {R : Room} {s : State} {m : MethodId} {args : Array Value} {below : List Frame} {meth : Method} {c : Code} {cells slots : Nat} {Q : State → Prop} {E : gE} {zw : va_W} (C : gC p s m args meth c E cX6_note 4 wsX6_note yX6_note.cls) {ad : Nat → Nat} {g : Nat → Int32} {ar : Nat → Nat → Int32} (hM : mAt zw (mcl E ad g ar)) {L : List Int32} (hS : Sor L) (hU : UL (ar 16) L) (hn : g 15 = nI L.length) (hlt : L.length < 2000) {v : Int32} (hK : ∀ k : Nat, k ≤ L.length → (∀ i (hi : i < L.length), k ≤ i → v < L[i]) → (k = 0 ∨ ∃ h : k - 1 < L.length, L[k - 1] ≤ v) → V p l e R s m args below meth c E 4 zw cells slots Q 27 [(0, .ref (ad 0)), (1, .int v), (2, .int (nI k))] []) : ∀ k : Nat, k ≤ L.length → (∀ i (hi : i < L.length), k ≤ i → v < L[i]) → V p l e R s m args below meth c E 4 zw cells slots Q 5 [(0, .ref (ad 0)), (1, .int v), (2, .int (nI k))] [] := by
  intro k
  induction k with
  | zero =>
    intro hk hg
    refine v_iload_n C dX6_note_5 rfl rfl ?_
    refine v_if_le (tgt := 27) C dX6_note_6 (by decide) (fun c6 => ?_) (fun c6 => absurd (by rw [fa_le, ti_0, nI_toInt (by decide)]; decide) c6)
    exact hK 0 hk (fun i hi h => hg i hi h) (Or.inl rfl)
  | succ j ih =>
    intro hk hg
    refine v_iload_n C dX6_note_5 rfl rfl ?_
    refine v_if_le (tgt := 27) C dX6_note_6 (by decide) (fun c6 => absurd c6 (nI_nle (Nat.succ_pos _) (by omega))) (fun c6 => ?_)
    refine v_aload_n C dX6_note_9 rfl rfl ?_
    refine vm_get (v := .ref (ad 16)) C hM inX6_note_X6 16 (by decide) kwX6_note_47 rfl rfl dX6_note_10 ?_
    refine v_iload_n C dX6_note_13 rfl rfl ?_
    refine v_iconst (v := 1) C dX6_note_14 (by decide) ?_
    refine v_isub C dX6_note_15 ?_
    rw [nI_pred]
    refine vm_iald (f := ar 16) C hM 13 rfl (vp_in_nI (by omega) (by decide)) dX6_note_16 ?_
    rw [nI_clamp (show j < 2 ^ 31 by omega), hU j (by omega)]
    refine v_iload_n C dX6_note_17 rfl rfl ?_
    refine v_at (pc9 := 18) rfl ?_
    refine v_icmp_le (tgt := 27) C dX6_note_18 (by decide) (fun c18 => ?_) (fun c18 => ?_)
    · exact hK (j + 1) hk hg (Or.inr ⟨by omega, c18⟩)
    · refine v_iinc (d := -1) C dX6_note_21 (by decide) rfl (by decide) rfl ?_
      rw [pk_m1]
      refine v_goto (tgt := 5) C dX6_note_24 (by decide) ?_
      exact ih (by omega) (fun i hi h => by
        rcases Nat.lt_or_ge j i with q | q
        · exact hg i hi q
        · obtain rfl : i = j := by omega
          rw [fa_lt]; rw [fa_le] at c18; omega)
set_option maxHeartbeats 4000000 in
set_option maxRecDepth 100000 in
theorem lpB_X6_note {p : Program} {l : Launch} {e : Env} {R : Room} {s : State} {m : MethodId} {args : Array Value} {below : List Frame} {meth : Method} {c : Code} {cells slots : Nat} {Q : State → Prop} {E : gE} {w0 : va_W} (C : gC p s m args meth c E cX6_note 4 wsX6_note yX6_note.cls) {ad : Nat → Nat} {g : Nat → Int32} {ar : Nat → Nat → Int32} {v : Int32} {k nn : Nat} {f0 : Nat → Int32} (hn2 : nn < 2000) (hK : ∀ (zw : va_W) (zF : Nat → Int32), mAt zw (mcl E ad g (va_up ar 16 zF)) → mFr w0 zw → (∀ j, j ≤ k → zF j = f0 j) → (∀ j, k < j → j ≤ nn → zF j = f0 (j - 1)) → V p l e R s m args below meth c E 4 zw cells slots Q 74 [(0, .ref (ad 0)), (1, .int v), (2, .int (nI k)), (3, .int (nI k))] []) : ∀ d : Nat, k + d ≤ nn → ∀ (zw : va_W) (zF : Nat → Int32), mAt zw (mcl E ad g (va_up ar 16 zF)) → mFr w0 zw → ((∀ j, j ≤ k + d → zF j = f0 j) ∧ (∀ j, k + d < j → j ≤ nn → zF j = f0 (j - 1))) → V p l e R s m args below meth c E 4 zw cells slots Q 49 [(0, .ref (ad 0)), (1, .int v), (2, .int (nI k)), (3, .int (nI (k + d)))] [] := by
  intro d
  induction d with
  | zero =>
    intro hd zw zF hM hF hz
    refine v_iload_n C dX6_note_49 rfl rfl ?_
    refine v_iload_n C dX6_note_50 rfl rfl ?_
    refine v_icmp_le (tgt := 74) C dX6_note_51 (by decide) (fun c51 => ?_) (fun c51 => absurd (by exact nI_le (by omega) (by omega)) c51)
    exact hK zw zF hM hF hz.1 hz.2
  | succ d ih =>
    intro hd zw zF hM hF hz
    refine v_iload_n C dX6_note_49 rfl rfl ?_
    refine v_iload_n C dX6_note_50 rfl rfl ?_
    refine v_icmp_le (tgt := 74) C dX6_note_51 (by decide) (fun c51 => absurd c51 (nI_ge (by omega) (by omega))) (fun c51 => ?_)
    refine v_aload_n C dX6_note_54 rfl rfl ?_
    refine vm_get (v := .ref (ad 16)) C hM inX6_note_X6 16 (by decide) kwX6_note_47 rfl rfl dX6_note_55 ?_
    refine v_iload_n C dX6_note_58 rfl rfl ?_
    refine v_aload_n C dX6_note_59 rfl rfl ?_
    refine vm_get (v := .ref (ad 16)) C hM inX6_note_X6 16 (by decide) kwX6_note_47 rfl rfl dX6_note_60 ?_
    refine v_iload_n C dX6_note_63 rfl rfl ?_
    refine v_at (pc9 := 64) rfl ?_
    refine v_iconst (v := 1) C dX6_note_64 (by decide) ?_
    refine v_isub C dX6_note_65 ?_
    rw [show k + (d + 1) = (k + d) + 1 from rfl, nI_pred]
    refine vm_iald (f := zF) C hM 13 rfl (vp_in_nI (by omega) (by decide)) dX6_note_66 ?_
    rw [nI_clamp (show k + d < 2 ^ 31 by omega)]
    refine vm_iast C hM hF 16 13 rfl (vp_in_nI (by omega) (by decide)) rfl dX6_note_67 (fun zw hM hF => ?_)
    rw [bx_uu, va_up_self, nI_clamp (show k + d + 1 < 2 ^ 31 by omega)] at hM
    refine v_iinc (d := -1) C dX6_note_68 (by decide) rfl (by decide) rfl ?_
    rw [pk_m1]
    refine v_goto (tgt := 49) C dX6_note_71 (by decide) ?_
    exact ih (by omega) zw _ hM hF ⟨fun j hj => by rw [pk_un (by omega)]; exact hz.1 j (by omega), fun j h1 h2 => by
      by_cases e : j = k + d + 1
      · subst e; rw [pk_us]; exact hz.1 (k + d) (by omega)
      · rw [pk_un e]; exact hz.2 j (by omega) h2⟩
theorem kwX6_note_109 : Cond.fieldLink RX6 109 "SeriesMarksModel" "unlikes" "I" ∈ wsX6_note := by decide +kernel
set_option maxHeartbeats 4000000 in
set_option maxRecDepth 100000 in
theorem c_X6_note (l : Launch) (E : gE) (zw : va_W) {ad : Nat → Nat} {g : Nat → Int32} {ar : Nat → Nat → Int32} (hM : mAt zw (mcl E ad g ar)) {L : List Int32} (hS : Sor L) (hU : UL (ar 16) L) (hn : g 15 = nI L.length) (hlt : L.length < 2000) (v : Int32) : CtU l yX6_note wsX6_note ({ frames := 0, cells := 0, slots := 0, locals := 0 }) E [.ref (ad 0), .int v] zw (fun w1 => ∃ zF : Nat → Int32, mAt w1 (mcl E ad (upd g 15 (nI (ins v L).length)) (va_up ar 16 zF)) ∧ mFr zw w1 ∧ UL zF (ins v L)) 0 0 := by
  refine Ct.of (cc := cX6_note) (nL := 4) (ret := none) (by decide) rfl (Nat.le_of_ble_eq_true rfl) ?_
  intro p e s m args below meth c C hr hnm
  refine v_eqlv (lv9 := [(0, .ref (ad 0)), (1, .int v)]) rfl ?_
  refine v_aload_n C dX6_note_0 rfl rfl ?_
  refine vm_get (v := .int (g 15)) C hM inX6_note_X6 15 (by decide) kwX6_note_109 rfl rfl dX6_note_1 ?_
  rw [hn]
  refine v_istore_n C dX6_note_4 rfl (by decide) rfl ?_
  refine lpA_X6_note C hM hS hU hn hlt ?_ L.length (Nat.le_refl _) (fun i hi h => absurd hi (by omega))
  intro k hk hg hle
  refine v_iload_n C dX6_note_27 rfl rfl ?_
  refine v_if_le (tgt := 44) C dX6_note_28 (by decide) (fun c28 => ?_) (fun c28 => ?_)
  · have hk0 : k = 0 := by
      rcases Nat.eq_zero_or_pos k with q | q
      · exact q
      · exact absurd c28 (nI_nle q (by omega))
    have hlow : ∀ i (hi : i < L.length), i < k → L[i] < v := fun i hi h => absurd h (by omega)
    refine v_aload_n C dX6_note_44 rfl rfl ?_
    refine vm_get (v := .int (g 15)) C hM inX6_note_X6 15 (by decide) kwX6_note_109 rfl rfl dX6_note_45 ?_
    rw [hn]
    refine v_istore_n C dX6_note_48 rfl (by decide) rfl ?_
    obtain ⟨d, hd⟩ : ∃ d, L.length = k + d := ⟨L.length - (k), by omega⟩
    refine v_eqlv (lv9 := [(0, .ref (ad 0)), (1, .int v), (2, .int (nI (k))), (3, .int (nI (k + d)))]) (by rw [← hd]; rfl) ?_
    refine lpB_X6_note (w0 := zw) (nn := L.length) (f0 := ar 16) C hlt ?_ d (by omega) zw (ar 16) (by rw [bx_k]; exact hM) (mFr.rf zw) ⟨fun j hj => rfl, fun j h1 h2 => absurd h1 (by omega)⟩
    intro zw zF hM hF hz1 hz2
    refine v_aload_n C dX6_note_74 rfl rfl ?_
    refine vm_get (v := .ref (ad 16)) C hM inX6_note_X6 16 (by decide) kwX6_note_47 rfl rfl dX6_note_75 ?_
    refine v_iload_n C dX6_note_78 rfl rfl ?_
    refine v_iload_n C dX6_note_79 rfl rfl ?_
    refine vm_iast C hM hF 16 13 rfl (vp_in_nI (by omega) (by decide)) rfl dX6_note_80 (fun zw hM hF => ?_)
    rw [bx_uu, va_up_self, nI_clamp (by omega)] at hM
    refine v_aload_n C dX6_note_81 rfl rfl ?_
    refine v_dup C dX6_note_82 rfl ?_
    refine vm_get (v := .int (g 15)) C hM inX6_note_X6 15 (by decide) kwX6_note_109 rfl rfl dX6_note_83 ?_
    refine v_iconst (v := 1) C dX6_note_86 (by decide) ?_
    refine v_at (pc9 := 87) rfl ?_
    refine v_iadd C dX6_note_87 ?_
    rw [hn, nI_1]
    refine vm_puti C hM hF inX6_note_X6 15 (by decide) kwX6_note_109 rfl rfl (by decide +kernel) rfl dX6_note_88 (fun zw hM hF => ?_)
    exact v_vret C hr dX6_note_91 (Nat.le_refl _) (Nat.le_refl _) ⟨rfl, by
        have hv : v ∉ L := fun hm => by
          obtain ⟨i, hi, e⟩ := List.mem_iff_getElem.mp hm
          rcases Nat.lt_or_ge i (k) with q | q
          · exact lt_ir v (e ▸ hlow i hi q)
          · exact lt_ir v (e ▸ hg i hi q)
        refine ⟨_, by rw [ins_len hS hv]; exact hM, hF, ?_⟩
        rw [ins_at hS hk hlow hg]
        exact hU.put hk (fun i hi => by rw [pk_un (by omega)]; exact hz1 i (by omega)) pk_us (fun i h1 h2 => by rw [pk_un (by omega)]; exact hz2 i h1 h2)⟩
  · obtain ⟨j, rfl⟩ : ∃ j, k = j + 1 := ⟨k - 1, by
      rcases Nat.eq_zero_or_pos k with q | q
      · subst q; exact absurd (by rw [fa_le, ti_0, nI_toInt (by decide)]; decide) c28
      · omega⟩
    refine v_aload_n C dX6_note_31 rfl rfl ?_
    refine vm_get (v := .ref (ad 16)) C hM inX6_note_X6 16 (by decide) kwX6_note_47 rfl rfl dX6_note_32 ?_
    refine v_iload_n C dX6_note_35 rfl rfl ?_
    refine v_iconst (v := 1) C dX6_note_36 (by decide) ?_
    refine v_isub C dX6_note_37 ?_
    rw [nI_pred]
    refine vm_iald (f := ar 16) C hM 13 rfl (vp_in_nI (by omega) (by decide)) dX6_note_38 ?_
    rw [nI_clamp (show j < 2 ^ 31 by omega), hU j (by omega)]
    refine v_iload_n C dX6_note_39 rfl rfl ?_
    refine v_icmp_ne (tgt := 44) C dX6_note_40 (by decide) (fun c40 => ?_) (fun c40 => ?_)
    · have hlow : ∀ i (hi : i < L.length), i < j + 1 → L[i] < v := fun i hi h => by
        obtain ⟨h9, h8⟩ := hle.resolve_left (by omega)
        have h7 : L[j] < v := fa_le_ne h8 c40
        rcases Nat.lt_or_ge i j with q | q
        · exact lt_tr (hS.get q (by omega)) h7
        · obtain rfl : i = j := by omega
          exact h7
      refine v_aload_n C dX6_note_44 rfl rfl ?_
      refine vm_get (v := .int (g 15)) C hM inX6_note_X6 15 (by decide) kwX6_note_109 rfl rfl dX6_note_45 ?_
      rw [hn]
      refine v_istore_n C dX6_note_48 rfl (by decide) rfl ?_
      obtain ⟨d, hd⟩ : ∃ d, L.length = j + 1 + d := ⟨L.length - (j + 1), by omega⟩
      refine v_eqlv (lv9 := [(0, .ref (ad 0)), (1, .int v), (2, .int (nI (j + 1))), (3, .int (nI (j + 1 + d)))]) (by rw [← hd]; rfl) ?_
      refine lpB_X6_note (w0 := zw) (nn := L.length) (f0 := ar 16) C hlt ?_ d (by omega) zw (ar 16) (by rw [bx_k]; exact hM) (mFr.rf zw) ⟨fun j hj => rfl, fun j h1 h2 => absurd h1 (by omega)⟩
      intro zw zF hM hF hz1 hz2
      refine v_aload_n C dX6_note_74 rfl rfl ?_
      refine vm_get (v := .ref (ad 16)) C hM inX6_note_X6 16 (by decide) kwX6_note_47 rfl rfl dX6_note_75 ?_
      refine v_iload_n C dX6_note_78 rfl rfl ?_
      refine v_iload_n C dX6_note_79 rfl rfl ?_
      refine vm_iast C hM hF 16 13 rfl (vp_in_nI (by omega) (by decide)) rfl dX6_note_80 (fun zw hM hF => ?_)
      rw [bx_uu, va_up_self, nI_clamp (by omega)] at hM
      refine v_aload_n C dX6_note_81 rfl rfl ?_
      refine v_dup C dX6_note_82 rfl ?_
      refine vm_get (v := .int (g 15)) C hM inX6_note_X6 15 (by decide) kwX6_note_109 rfl rfl dX6_note_83 ?_
      refine v_iconst (v := 1) C dX6_note_86 (by decide) ?_
      refine v_at (pc9 := 87) rfl ?_
      refine v_iadd C dX6_note_87 ?_
      rw [hn, nI_1]
      refine vm_puti C hM hF inX6_note_X6 15 (by decide) kwX6_note_109 rfl rfl (by decide +kernel) rfl dX6_note_88 (fun zw hM hF => ?_)
      exact v_vret C hr dX6_note_91 (Nat.le_refl _) (Nat.le_refl _) ⟨rfl, by
          have hv : v ∉ L := fun hm => by
            obtain ⟨i, hi, e⟩ := List.mem_iff_getElem.mp hm
            rcases Nat.lt_or_ge i (j + 1) with q | q
            · exact lt_ir v (e ▸ hlow i hi q)
            · exact lt_ir v (e ▸ hg i hi q)
          refine ⟨_, by rw [ins_len hS hv]; exact hM, hF, ?_⟩
          rw [ins_at hS hk hlow hg]
          exact hU.put hk (fun i hi => by rw [pk_un (by omega)]; exact hz1 i (by omega)) pk_us (fun i h1 h2 => by rw [pk_un (by omega)]; exact hz2 i h1 h2)⟩
    · have hv : v ∈ L := by rw [← c40]; exact List.getElem_mem _
      exact v_vret C hr dX6_note_43 (Nat.le_refl _) (Nat.le_refl _) ⟨rfl, ⟨ar 16, by rw [ins_mem hS hv, ← hn, bx_k, fa_upd_same rfl]; exact hM, mFr.rf zw, by rw [ins_mem hS hv]; exact hU⟩⟩
/-- nothing changed but what is worked with: field 15, rows 14 and 16 -/
def mSc (g : Nat → Int32) (ar : Nat → Nat → Int32) (g1 : Nat → Int32) (ar1 : Nat → Nat → Int32) : Prop := (∀ k, k ≠ 15 → g1 k = g k) ∧ ∀ k, k ≠ 14 → k ≠ 16 → ar1 k = ar k
set_option maxHeartbeats 4000000 in
set_option maxRecDepth 100000 in
theorem c_X6_seen (l : Launch) (E : gE) (zw : va_W) {ad : Nat → Nat} {g : Nat → Int32} {ar : Nat → Nat → Int32} (hM : mAt zw (mcl E ad g ar)) {tk ns np na : Nat} (hI : MI g ar tk ns np na) (f t : Int32) : CtI l yX6_seen wsX6_seen ({ frames := 2, cells := 0, slots := 0, locals := 47 }) E [.ref (ad 0), .int f, .int t] zw (fun r w1 => ∃ (g1 : Nat → Int32) (ar1 : Nat → Nat → Int32), mAt w1 (mcl E ad g1 ar1) ∧ mFr zw w1 ∧ mSc g ar g1 ar1 ∧ r = if 0 ≤ t.toInt ∧ t.toInt ≤ (g 0).toInt ∧ 0 ≤ f.toInt ∧ f.toInt ≤ t.toInt then nI (lkN (inSp (ar 12) f t) (ar 11) np) else (-2)) 0 0 := by
  refine Ct.of (cc := cX6_seen) (nL := 3) (ret := (some .int)) (by decide) rfl (Nat.le_of_ble_eq_true rfl) ?_
  intro p e s m args below meth c C hr hnm
  refine v_eqlv (lv9 := [(0, .ref (ad 0)), (1, .int f), (2, .int t)]) rfl ?_
  refine v_aload_n C dX6_seen_0 rfl rfl ?_
  refine v_iload_n C dX6_seen_1 rfl rfl ?_
  refine v_iload_n C dX6_seen_2 rfl rfl ?_
  refine v_callVi C (c_X6_isSpan l E zw hM _ _) (cwV 2 C.1.2.2.2.2 gX6_seen_X6_isSpan rfl rfl rfl (by decide +kernel) ⟨by decide, by decide⟩) 12 7 (hM 0 _ rfl) rfl rfl rfl (Nat.le_of_ble_eq_true rfl) dX6_seen_3 ⟨Nat.le_of_ble_eq_true rfl, Nat.le_of_ble_eq_true rfl⟩ (fun r w1 hp => ?_)
  obtain ⟨rfl, rfl⟩ := hp
  refine v_if_eq (tgt := 18) C dX6_seen_6 (by decide) (fun c6 => ?_) (fun c6 => ?_)
  · have c6 := b01_0 c6
    refine v_bipush (v := (-2)) C dX6_seen_18 (by decide) ?_
    exact v_iret C hr dX6_seen_20 (Nat.le_refl _) (Nat.le_refl _) ⟨_, rfl, (by first | exact ⟨g, va_up ar 14 zF, hM, hF, ⟨fun _ _ => rfl, fun k h _ => va_up_ne _ _ h⟩, (if_pos c6).symm⟩ | exact ⟨g, ar, hM, mFr.rf _, ⟨fun _ _ => rfl, fun _ _ _ => rfl⟩, (if_neg c6).symm⟩)⟩
  · have c6 := b01_n c6
    refine v_aload_n C dX6_seen_9 rfl rfl ?_
    refine v_iload_n C dX6_seen_10 rfl rfl ?_
    refine v_iload_n C dX6_seen_11 rfl rfl ?_
    refine v_callVi C (c_X6_look l E zw hM hI _ _) (cwV 2 C.1.2.2.2.2 gX6_seen_X6_look rfl rfl rfl (by decide +kernel) ⟨by decide, by decide⟩) 12 7 (hM 0 _ rfl) rfl rfl rfl (Nat.le_of_ble_eq_true rfl) dX6_seen_12 ⟨Nat.le_of_ble_eq_true rfl, Nat.le_of_ble_eq_true rfl⟩ (fun r zw hp => ?_)
    obtain ⟨zF, hM, hF, hz, rfl⟩ := hp
    refine v_goto (tgt := 20) C dX6_seen_15 (by decide) ?_
    exact v_iret C hr dX6_seen_20 (Nat.le_refl _) (Nat.le_refl _) ⟨_, rfl, (by first | exact ⟨g, va_up ar 14 zF, hM, hF, ⟨fun _ _ => rfl, fun k h _ => va_up_ne _ _ h⟩, (if_pos c6).symm⟩ | exact ⟨g, ar, hM, mFr.rf _, ⟨fun _ _ => rfl, fun _ _ _ => rfl⟩, (if_neg c6).symm⟩)⟩
