theorem MI.sc {g g1 : Nat → Int32} {ar ar1 : Nat → Nat → Int32} {tk ns np na : Nat} (h : MI g ar tk ns np na) (hs : mSc g ar g1 ar1) : MI g1 ar1 tk ns np na := by
  unfold MI
  rw [hs.1 0 (by decide), hs.1 3 (by decide), hs.1 10 (by decide), hs.1 17 (by decide), hs.2 11 (by decide) (by decide), hs.2 12 (by decide) (by decide), hs.2 4 (by decide) (by decide), hs.2 1 (by decide) (by decide), hs.2 2 (by decide) (by decide), hs.2 5 (by decide) (by decide), hs.2 18 (by decide) (by decide), hs.2 19 (by decide) (by decide)]
  exact h
theorem mSc.rf (g : Nat → Int32) (ar : Nat → Nat → Int32) : mSc g ar g ar := ⟨fun _ _ => rfl, fun _ _ _ => rfl⟩
theorem mSc.tr {g g1 g2 : Nat → Int32} {ar ar1 ar2 : Nat → Nat → Int32} (h : mSc g ar g1 ar1) (h2 : mSc g1 ar1 g2 ar2) : mSc g ar g2 ar2 := ⟨fun k hk => (h2.1 k hk).trans (h.1 k hk), fun k h3 h4 => (h2.2 k h3 h4).trans (h.2 k h3 h4)⟩
theorem mSc.u {g : Nat → Int32} {ar : Nat → Nat → Int32} (x : Int32) : mSc g ar (upd g 15 x) ar := ⟨fun k hk => pk_un hk, fun _ _ _ => rfl⟩
theorem mSc.h {g : Nat → Int32} {ar : Nat → Nat → Int32} (zF : Nat → Int32) : mSc g ar g (va_up ar 16 zF) := ⟨fun _ _ => rfl, fun k _ hk => va_up_ne _ _ hk⟩
theorem mSc.f {g : Nat → Int32} {ar : Nat → Nat → Int32} (zF : Nat → Int32) : mSc g ar g (va_up ar 14 zF) := ⟨fun _ _ => rfl, fun k hk _ => va_up_ne _ _ hk⟩
theorem q_f {q : Nat → Bool} {j : Nat} {x : Int32} (h : x = b01 (q j = true)) (c : x = 0) : q j = false := by
  have := b01_0 (h.symm.trans c)
  simpa using this
theorem q_t {q : Nat → Bool} {j : Nat} {x : Int32} (h : x = b01 (q j = true)) (c : ¬ x = 0) : q j = true := b01_n (fun e => c (h.trans e))
theorem inX6_unlikeWithout_X6 : ∀ x ∈ wsX60, x ∈ wsX6_unlikeWithout := by decide +kernel
theorem kwX6_unlikeWithout_81 : Cond.fieldLink RX6 81 "SeriesMarksModel" "series" "I" ∈ wsX6_unlikeWithout := by decide +kernel
theorem kwX6_unlikeWithout_44 : Cond.fieldLink RX6 44 "SeriesMarksModel" "isSeen" "[Z" ∈ wsX6_unlikeWithout := by decide +kernel
theorem kwX6_unlikeWithout_17 : Cond.fieldLink RX6 17 "SeriesMarksModel" "name" "[I" ∈ wsX6_unlikeWithout := by decide +kernel
set_option maxHeartbeats 4000000 in
set_option maxRecDepth 100000 in
theorem lp_X6_unlikeWithout {p : Program} {l : Launch} {e : Env} {s : State} {m : MethodId} {args : Array Value} {below : List Frame} {meth : Method} {c : Code} {Q : State → Prop} {E : gE} {w0 : va_W} (C : gC p s m args meth c E cX6_unlikeWithout 3 wsX6_unlikeWithout yX6_unlikeWithout.cls) {ad : Nat → Nat} {g : Nat → Int32} {ar : Nat → Nat → Int32} {tk ns np na : Nat} (hI : MI g ar tk ns np na) {mk : Int32} {q : Nat → Bool} (hq : ∀ j, j < ns → ar 14 j = b01 (q j = true))  (hK : ∀ (zw : va_W) (zH : Nat → Int32), mAt zw (mcl E ad (upd g 15 (nI (insN (q) (fun j => woI (ar 4 j) mk 6) ns).length)) (va_up ar 16 zH)) → mFr w0 zw → UL zH (insN (q) (fun j => woI (ar 4 j) mk 6) ns) → V p l e ({ frames := 1, cells := 0, slots := 0, locals := 23 }) s m args below meth c E 3 zw 0 0 Q 44 [(0, .ref (ad 0)), (1, .int mk), (2, .int (nI ns))] []) : ∀ n i : Nat, i + n = ns → ∀ (zw : va_W) (zH : Nat → Int32), mAt zw (mcl E ad (upd g 15 (nI (insN (q) (fun j => woI (ar 4 j) mk 6) i).length)) (va_up ar 16 zH)) → mFr w0 zw → UL zH (insN (q) (fun j => woI (ar 4 j) mk 6) i) → V p l e ({ frames := 1, cells := 0, slots := 0, locals := 23 }) s m args below meth c E 3 zw 0 0 Q 7 [(0, .ref (ad 0)), (1, .int mk), (2, .int (nI i))] [] := by
  intro n
  induction n with
  | zero =>
    intro i hi zw zH hM hF hU
    obtain rfl : i = ns := by omega
    refine v_iload_n C dX6_unlikeWithout_7 rfl rfl ?_
    refine v_aload_n C dX6_unlikeWithout_8 rfl rfl ?_
    refine vm_get (v := .int (g 3)) C hM inX6_unlikeWithout_X6 3 (by decide) kwX6_unlikeWithout_81 rfl rfl dX6_unlikeWithout_9 ?_
    refine v_icmp_ge (tgt := 44) C dX6_unlikeWithout_12 (by decide) (fun c12 => ?_) (fun c12 => absurd (by rw [hI.2.1.1]; exact nI_le (Nat.le_refl _) (by have := hI.ser.2; omega)) c12)
    exact hK zw zH hM hF hU
  | succ n ih =>
    intro i hi zw zH hM hF hU
    refine v_iload_n C dX6_unlikeWithout_7 rfl rfl ?_
    refine v_aload_n C dX6_unlikeWithout_8 rfl rfl ?_
    refine vm_get (v := .int (g 3)) C hM inX6_unlikeWithout_X6 3 (by decide) kwX6_unlikeWithout_81 rfl rfl dX6_unlikeWithout_9 ?_
    refine v_icmp_ge (tgt := 44) C dX6_unlikeWithout_12 (by decide) (fun c12 => absurd c12 (by rw [hI.2.1.1]; exact nI_ge (by omega) (by have := hI.ser.2; omega))) (fun c12 => ?_)
    refine v_aload_n C dX6_unlikeWithout_15 rfl rfl ?_
    refine vm_get (v := .ref (ad 14)) C hM inX6_unlikeWithout_X6 14 (by decide) kwX6_unlikeWithout_44 rfl rfl dX6_unlikeWithout_16 ?_
    refine v_iload_n C dX6_unlikeWithout_19 rfl rfl ?_
    refine vm_zald (f := ar 14) C hM 12 rfl (vp_in_nI (by have := hI.ser.2; omega) (by decide)) dX6_unlikeWithout_20 ?_
    rw [nI_clamp (show i < 2 ^ 31 by have := hI.ser.2; omega)]
    refine v_if_eq (tgt := 38) C dX6_unlikeWithout_21 (by decide) (fun c21 => ?_) (fun c21 => ?_)
    · have hq1 := q_f (hq i (by omega)) c21
      refine v_iincN C dX6_unlikeWithout_38 rfl (by decide) rfl ?_
      refine v_goto (tgt := 7) C dX6_unlikeWithout_41 (by decide) ?_
      first
      | (have e9 := insN_t (p := q) (h := fun j => woI (ar 4 j) mk 6) (i := i) (by simp [*]; done)
         exact ih (i + 1) (by omega) zw zH (by rw [e9]; exact hM) hF (by rw [e9]; exact hU))
      | (have e9 := insN_f (p := q) (h := fun j => woI (ar 4 j) mk 6) (i := i) (by simp [*]; done)
         exact ih (i + 1) (by omega) zw zH (by rw [e9]; exact hM) hF (by rw [e9]; exact hU))
    · have hq1 := q_t (hq i (by omega)) c21
      refine v_aload_n C dX6_unlikeWithout_24 rfl rfl ?_
      refine v_aload_n C dX6_unlikeWithout_25 rfl rfl ?_
      refine vm_get (v := .ref (ad 4)) C hM inX6_unlikeWithout_X6 4 (by decide) kwX6_unlikeWithout_17 rfl rfl dX6_unlikeWithout_26 ?_
      refine v_iload_n C dX6_unlikeWithout_29 rfl rfl ?_
      refine vm_iald (f := ar 4) C hM 3 rfl (vp_in_nI (by have := hI.ser.2; omega) (by decide)) dX6_unlikeWithout_30 ?_
      rw [nI_clamp (show i < 2 ^ 31 by have := hI.ser.2; omega)]
      refine v_iload_n C dX6_unlikeWithout_31 rfl rfl ?_
      refine v_callSi C (c_X6_without l E zw _ _) (va_cwS 2 C.1.2.2.2.2 gX6_unlikeWithout_X6_without rfl rfl rfl (by decide +kernel) ⟨by decide, by decide⟩) rfl rfl (Nat.le_of_ble_eq_true rfl) dX6_unlikeWithout_32 ⟨Nat.le_of_ble_eq_true rfl, Nat.le_of_ble_eq_true rfl⟩ (fun r w1 hp => ?_)
      obtain ⟨rfl, rfl⟩ := hp
      refine v_callVu C (c_X6_note l E zw hM (insN_sor _ _ i) hU pk_us (by have := insN_len (q) (fun j => woI (ar 4 j) mk 6) i; have := hI.ser.2; omega) _) (cwV 1 C.1.2.2.2.2 gX6_unlikeWithout_X6_note rfl rfl rfl (by decide +kernel) ⟨by decide, by decide⟩) 12 7 (hM 0 _ rfl) rfl rfl rfl (Nat.le_of_ble_eq_true rfl) dX6_unlikeWithout_35 ⟨Nat.le_of_ble_eq_true rfl, Nat.le_of_ble_eq_true rfl⟩ (fun zw hp => ?_)
      obtain ⟨zH, hM, hF1, hU⟩ := hp
      have hF := hF.tr hF1
      rw [fa_upd_twice, bx_uu] at hM
      refine v_iincN C dX6_unlikeWithout_38 rfl (by decide) rfl ?_
      refine v_goto (tgt := 7) C dX6_unlikeWithout_41 (by decide) ?_
      first
      | (have e9 := insN_t (p := q) (h := fun j => woI (ar 4 j) mk 6) (i := i) (by simp [*]; done)
         exact ih (i + 1) (by omega) zw zH (by rw [e9]; exact hM) hF (by rw [e9]; exact hU))
      | (have e9 := insN_f (p := q) (h := fun j => woI (ar 4 j) mk 6) (i := i) (by simp [*]; done)
         exact ih (i + 1) (by omega) zw zH (by rw [e9]; exact hM) hF (by rw [e9]; exact hU))
theorem kwX6_unlikeWithout_109 : Cond.fieldLink RX6 109 "SeriesMarksModel" "unlikes" "I" ∈ wsX6_unlikeWithout := by decide +kernel
set_option maxHeartbeats 4000000 in
set_option maxRecDepth 100000 in
theorem c_X6_unlikeWithout (l : Launch) (E : gE) (zw : va_W) {ad : Nat → Nat} {g : Nat → Int32} {ar : Nat → Nat → Int32} (hM : mAt zw (mcl E ad g ar)) {tk ns np na : Nat} (hI : MI g ar tk ns np na) {q : Nat → Bool} (hq : ∀ j, j < ns → ar 14 j = b01 (q j = true)) (mk : Int32) : CtI l yX6_unlikeWithout wsX6_unlikeWithout ({ frames := 1, cells := 0, slots := 0, locals := 23 }) E [.ref (ad 0), .int mk] zw (fun r w1 => ∃ zH : Nat → Int32, mAt w1 (mcl E ad (upd g 15 (nI (insN q (fun j => woI (ar 4 j) mk 6) ns).length)) (va_up ar 16 zH)) ∧ mFr zw w1 ∧ UL zH (insN q (fun j => woI (ar 4 j) mk 6) ns) ∧ r = nI (insN q (fun j => woI (ar 4 j) mk 6) ns).length) 0 0 := by
  refine Ct.of (cc := cX6_unlikeWithout) (nL := 3) (ret := (some .int)) (by decide) rfl (Nat.le_of_ble_eq_true rfl) ?_
  intro p e s m args below meth c C hr hnm
  refine v_eqlv (lv9 := [(0, .ref (ad 0)), (1, .int mk)]) rfl ?_
  obtain ⟨w0, hw0⟩ : ∃ w0 : va_W, w0 = zw := ⟨_, rfl⟩
  have hF : mFr w0 zw := by rw [hw0]; exact mFr.rf zw
  refine v_aload_n C dX6_unlikeWithout_0 rfl rfl ?_
  refine v_iconst (v := 0) C dX6_unlikeWithout_1 (by decide) ?_
  refine vm_puti C hM hF inX6_unlikeWithout_X6 15 (by decide) kwX6_unlikeWithout_109 rfl rfl (by decide +kernel) rfl dX6_unlikeWithout_2 (fun zw hM hF => ?_)
  refine v_iconst (v := 0) C dX6_unlikeWithout_5 (by decide) ?_
  refine v_tov nI_0.symm ?_
  refine v_istore_n C dX6_unlikeWithout_6 rfl (by decide) rfl ?_
  refine lp_X6_unlikeWithout (w0 := w0) C hI (mk := mk) hq ?_ ns 0 (Nat.zero_add _) zw (ar 16) (by rw [bx_k]; exact hM) hF (UL.nil _)
  intro zw zH hM hF hU
  refine v_aload_n C dX6_unlikeWithout_44 rfl rfl ?_
  refine vm_get (v := .int (upd g 15 (nI (insN q (fun j => woI (ar 4 j) mk 6) ns).length) 15)) C hM inX6_unlikeWithout_X6 15 (by decide) kwX6_unlikeWithout_109 rfl rfl dX6_unlikeWithout_45 ?_
  rw [pk_us]
  exact v_iret C hr dX6_unlikeWithout_48 (Nat.le_refl _) (Nat.le_refl _) ⟨_, rfl, ⟨zH, hM, hw0 ▸ hF, hU, rfl⟩⟩
theorem kwX6_unlike_c129 : Cond.constantLong RX6 129 (63) ∈ wsX6_unlike := by decide +kernel
set_option maxHeartbeats 4000000 in
set_option maxRecDepth 100000 in
theorem c_X6_unlike (l : Launch) (E : gE) (zw : va_W) {ad : Nat → Nat} {g : Nat → Int32} {ar : Nat → Nat → Int32} (hM : mAt zw (mcl E ad g ar)) {tk ns np na : Nat} (hI : MI g ar tk ns np na) (mk f t : Int32) : CtI l yX6_unlike wsX6_unlike ({ frames := 2, cells := 0, slots := 0, locals := 47 }) E [.ref (ad 0), .int mk, .int f, .int t] zw (fun r w1 => ∃ (g1 : Nat → Int32) (ar1 : Nat → Nat → Int32), mAt w1 (mcl E ad g1 ar1) ∧ mFr zw w1 ∧ mSc g ar g1 ar1 ∧ r = if (0 ≤ mk.toInt ∧ mk.toInt ≤ 63) ∧ (0 ≤ t.toInt ∧ t.toInt ≤ (g 0).toInt ∧ 0 ≤ f.toInt ∧ f.toInt ≤ t.toInt) then nI (insN (fun j => senB (inSp (ar 12) f t) (ar 11) j np) (fun j => woI (ar 4 j) mk 6) ns).length else (-2)) 0 0 := by
  refine Ct.of (cc := cX6_unlike) (nL := 5) (ret := (some .int)) (by decide) rfl (Nat.le_of_ble_eq_true rfl) ?_
  intro p e s m args below meth c C hr hnm
  refine v_eqlv (lv9 := [(0, .ref (ad 0)), (1, .int mk), (2, .int f), (3, .int t)]) rfl ?_
  refine v_iload_n C dX6_unlike_0 rfl rfl ?_
  refine v_i2l C dX6_unlike_1 rfl ?_
  refine v_lconst (v := 0) C dX6_unlike_2 (by decide) ?_
  refine v_ldc2 C kwX6_unlike_c129 dX6_unlike_3 ?_
  refine v_callSi C (c_X6_in l E zw _ _ _) (va_cwS 3 C.1.2.2.2.2 gX6_unlike_X6_in rfl rfl rfl (by decide +kernel) ⟨by decide, by decide⟩) rfl rfl (Nat.le_of_ble_eq_true rfl) dX6_unlike_6 ⟨Nat.le_of_ble_eq_true rfl, Nat.le_of_ble_eq_true rfl⟩ (fun r w1 hp => ?_)
  obtain ⟨rfl, rfl⟩ := hp
  refine v_if_eq (tgt := 21) C dX6_unlike_9 (by decide) (fun c9 => ?_) (fun c9 => ?_)
  · have c9 := b01_0 c9
    simp only [t64, tl_0, tl_63] at c9
    refine v_bipush (v := (-2)) C dX6_unlike_21 (by decide) ?_
    exact v_iret C hr dX6_unlike_23 (Nat.le_refl _) (Nat.le_refl _) ⟨_, rfl, (by first | exact ⟨_, _, hM, hF.tr hF1, (mSc.f zF).tr ((mSc.u _).tr (mSc.h zH)), by rw [if_pos ⟨c9, c18⟩] <;> rfl⟩ | exact ⟨g, ar, hM, mFr.rf _, mSc.rf g ar, by first | rw [if_neg (fun h => c9 h.1)] | rw [if_neg (fun h => c18 h.2)]⟩)⟩
  · have c9 := b01_n c9
    simp only [t64, tl_0, tl_63] at c9
    refine v_aload_n C dX6_unlike_12 rfl rfl ?_
    refine v_iload_n C dX6_unlike_13 rfl rfl ?_
    refine v_iload_n C dX6_unlike_14 rfl rfl ?_
    refine v_callVi C (c_X6_isSpan l E zw hM _ _) (cwV 2 C.1.2.2.2.2 gX6_unlike_X6_isSpan rfl rfl rfl (by decide +kernel) ⟨by decide, by decide⟩) 12 7 (hM 0 _ rfl) rfl rfl rfl (Nat.le_of_ble_eq_true rfl) dX6_unlike_15 ⟨Nat.le_of_ble_eq_true rfl, Nat.le_of_ble_eq_true rfl⟩ (fun r w1 hp => ?_)
    obtain ⟨rfl, rfl⟩ := hp
    refine v_if_ne (tgt := 24) C dX6_unlike_18 (by decide) (fun c18 => ?_) (fun c18 => ?_)
    · have c18 := b01_n c18
      refine v_aload_n C dX6_unlike_24 rfl rfl ?_
      refine v_iload_n C dX6_unlike_25 rfl rfl ?_
      refine v_iload_n C dX6_unlike_26 rfl rfl ?_
      refine v_callVi C (c_X6_look l E zw hM hI _ _) (cwV 2 C.1.2.2.2.2 gX6_unlike_X6_look rfl rfl rfl (by decide +kernel) ⟨by decide, by decide⟩) 12 7 (hM 0 _ rfl) rfl rfl rfl (Nat.le_of_ble_eq_true rfl) dX6_unlike_27 ⟨Nat.le_of_ble_eq_true rfl, Nat.le_of_ble_eq_true rfl⟩ (fun r zw hp => ?_)
      obtain ⟨zF, hM, hF, hz, rfl⟩ := hp
      refine v_istore C dX6_unlike_30 (by decide) rfl ?_
      refine v_aload_n C dX6_unlike_32 rfl rfl ?_
      refine v_iload_n C dX6_unlike_33 rfl rfl ?_
      refine v_callVi C (c_X6_unlikeWithout l E zw hM (hI.sc (mSc.f zF)) (q := (fun j => senB (inSp (ar 12) f t) (ar 11) j np)) hz _) (cwV 1 C.1.2.2.2.2 gX6_unlike_X6_unlikeWithout rfl rfl rfl (by decide +kernel) ⟨by decide, by decide⟩) 12 7 (hM 0 _ rfl) rfl rfl rfl (Nat.le_of_ble_eq_true rfl) dX6_unlike_34 ⟨Nat.le_of_ble_eq_true rfl, Nat.le_of_ble_eq_true rfl⟩ (fun r zw hp => ?_)
      obtain ⟨zH, hM, hF1, hU, rfl⟩ := hp
      exact v_iret C hr dX6_unlike_37 (Nat.le_refl _) (Nat.le_refl _) ⟨_, rfl, (by first | exact ⟨_, _, hM, hF.tr hF1, (mSc.f zF).tr ((mSc.u _).tr (mSc.h zH)), by rw [if_pos ⟨c9, c18⟩] <;> rfl⟩ | exact ⟨g, ar, hM, mFr.rf _, mSc.rf g ar, by first | rw [if_neg (fun h => c9 h.1)] | rw [if_neg (fun h => c18 h.2)]⟩)⟩
    · have c18 := b01_0 c18
      refine v_bipush (v := (-2)) C dX6_unlike_21 (by decide) ?_
      exact v_iret C hr dX6_unlike_23 (Nat.le_refl _) (Nat.le_refl _) ⟨_, rfl, (by first | exact ⟨_, _, hM, hF.tr hF1, (mSc.f zF).tr ((mSc.u _).tr (mSc.h zH)), by rw [if_pos ⟨c9, c18⟩] <;> rfl⟩ | exact ⟨g, ar, hM, mFr.rf _, mSc.rf g ar, by first | rw [if_neg (fun h => c9 h.1)] | rw [if_neg (fun h => c18 h.2)]⟩)⟩
theorem inX6_values_X6 : ∀ x ∈ wsX60, x ∈ wsX6_values := by decide +kernel
theorem kwX6_values_81 : Cond.fieldLink RX6 81 "SeriesMarksModel" "series" "I" ∈ wsX6_values := by decide +kernel
theorem kwX6_values_44 : Cond.fieldLink RX6 44 "SeriesMarksModel" "isSeen" "[Z" ∈ wsX6_values := by decide +kernel
theorem kwX6_values_17 : Cond.fieldLink RX6 17 "SeriesMarksModel" "name" "[I" ∈ wsX6_values := by decide +kernel
set_option maxHeartbeats 4000000 in
set_option maxRecDepth 100000 in
theorem lp_X6_values {p : Program} {l : Launch} {e : Env} {s : State} {m : MethodId} {args : Array Value} {below : List Frame} {meth : Method} {c : Code} {Q : State → Prop} {E : gE} {w0 : va_W} (C : gC p s m args meth c E cX6_values 6 wsX6_values yX6_values.cls) {ad : Nat → Nat} {g : Nat → Int32} {ar : Nat → Nat → Int32} {tk ns np na : Nat} (hI : MI g ar tk ns np na) {mk f t n4 : Int32} {q : Nat → Bool} (hq : ∀ j, j < ns → ar 14 j = b01 (q j = true))  (hK : ∀ (zw : va_W) (zH : Nat → Int32), mAt zw (mcl E ad (upd g 15 (nI (insN (q) (fun j => dgt (ar 4 j) mk) ns).length)) (va_up ar 16 zH)) → mFr w0 zw → UL zH (insN (q) (fun j => dgt (ar 4 j) mk) ns) → V p l e ({ frames := 2, cells := 0, slots := 0, locals := 47 }) s m args below meth c E 6 zw 0 0 Q 77 [(0, .ref (ad 0)), (1, .int mk), (2, .int f), (3, .int t), (4, .int n4), (5, .int (nI ns))] []) : ∀ n i : Nat, i + n = ns → ∀ (zw : va_W) (zH : Nat → Int32), mAt zw (mcl E ad (upd g 15 (nI (insN (q) (fun j => dgt (ar 4 j) mk) i).length)) (va_up ar 16 zH)) → mFr w0 zw → UL zH (insN (q) (fun j => dgt (ar 4 j) mk) i) → V p l e ({ frames := 2, cells := 0, slots := 0, locals := 47 }) s m args below meth c E 6 zw 0 0 Q 37 [(0, .ref (ad 0)), (1, .int mk), (2, .int f), (3, .int t), (4, .int n4), (5, .int (nI i))] [] := by
  intro n
  induction n with
  | zero =>
    intro i hi zw zH hM hF hU
    obtain rfl : i = ns := by omega
    refine v_iload C dX6_values_37 rfl ?_
    refine v_aload_n C dX6_values_39 rfl rfl ?_
    refine vm_get (v := .int (g 3)) C hM inX6_values_X6 3 (by decide) kwX6_values_81 rfl rfl dX6_values_40 ?_
    refine v_icmp_ge (tgt := 77) C dX6_values_43 (by decide) (fun c43 => ?_) (fun c43 => absurd (by rw [hI.2.1.1]; exact nI_le (Nat.le_refl _) (by have := hI.ser.2; omega)) c43)
    exact hK zw zH hM hF hU
  | succ n ih =>
    intro i hi zw zH hM hF hU
    refine v_iload C dX6_values_37 rfl ?_
    refine v_aload_n C dX6_values_39 rfl rfl ?_
    refine vm_get (v := .int (g 3)) C hM inX6_values_X6 3 (by decide) kwX6_values_81 rfl rfl dX6_values_40 ?_
    refine v_icmp_ge (tgt := 77) C dX6_values_43 (by decide) (fun c43 => absurd c43 (by rw [hI.2.1.1]; exact nI_ge (by omega) (by have := hI.ser.2; omega))) (fun c43 => ?_)
    refine v_aload_n C dX6_values_46 rfl rfl ?_
    refine vm_get (v := .ref (ad 14)) C hM inX6_values_X6 14 (by decide) kwX6_values_44 rfl rfl dX6_values_47 ?_
    refine v_iload C dX6_values_50 rfl ?_
    refine vm_zald (f := ar 14) C hM 12 rfl (vp_in_nI (by have := hI.ser.2; omega) (by decide)) dX6_values_52 ?_
    rw [nI_clamp (show i < 2 ^ 31 by have := hI.ser.2; omega)]
    refine v_if_eq (tgt := 71) C dX6_values_53 (by decide) (fun c53 => ?_) (fun c53 => ?_)
    · have hq1 := q_f (hq i (by omega)) c53
      refine v_iincN C dX6_values_71 rfl (by decide) rfl ?_
      refine v_goto (tgt := 37) C dX6_values_74 (by decide) ?_
      first
      | (have e9 := insN_t (p := q) (h := fun j => dgt (ar 4 j) mk) (i := i) (by simp [*]; done)
         exact ih (i + 1) (by omega) zw zH (by rw [e9]; exact hM) hF (by rw [e9]; exact hU))
      | (have e9 := insN_f (p := q) (h := fun j => dgt (ar 4 j) mk) (i := i) (by simp [*]; done)
         exact ih (i + 1) (by omega) zw zH (by rw [e9]; exact hM) hF (by rw [e9]; exact hU))
    · have hq1 := q_t (hq i (by omega)) c53
      refine v_aload_n C dX6_values_56 rfl rfl ?_
      refine v_aload_n C dX6_values_57 rfl rfl ?_
      refine vm_get (v := .ref (ad 4)) C hM inX6_values_X6 4 (by decide) kwX6_values_17 rfl rfl dX6_values_58 ?_
      refine v_iload C dX6_values_61 rfl ?_
      refine vm_iald (f := ar 4) C hM 3 rfl (vp_in_nI (by have := hI.ser.2; omega) (by decide)) dX6_values_63 ?_
      rw [nI_clamp (show i < 2 ^ 31 by have := hI.ser.2; omega)]
      refine v_iload_n C dX6_values_64 rfl rfl ?_
      refine v_callSi C (c_X6_digit l E zw _ _) (va_cwS 2 C.1.2.2.2.2 gX6_values_X6_digit rfl rfl rfl (by decide +kernel) ⟨by decide, by decide⟩) rfl rfl (Nat.le_of_ble_eq_true rfl) dX6_values_65 ⟨Nat.le_of_ble_eq_true rfl, Nat.le_of_ble_eq_true rfl⟩ (fun r w1 hp => ?_)
      obtain ⟨rfl, rfl⟩ := hp
      refine v_callVu C (c_X6_note l E zw hM (insN_sor _ _ i) hU pk_us (by have := insN_len (q) (fun j => dgt (ar 4 j) mk) i; have := hI.ser.2; omega) _) (cwV 1 C.1.2.2.2.2 gX6_values_X6_note rfl rfl rfl (by decide +kernel) ⟨by decide, by decide⟩) 12 7 (hM 0 _ rfl) rfl rfl rfl (Nat.le_of_ble_eq_true rfl) dX6_values_68 ⟨Nat.le_of_ble_eq_true rfl, Nat.le_of_ble_eq_true rfl⟩ (fun zw hp => ?_)
      obtain ⟨zH, hM, hF1, hU⟩ := hp
      have hF := hF.tr hF1
      rw [fa_upd_twice, bx_uu] at hM
      refine v_iincN C dX6_values_71 rfl (by decide) rfl ?_
      refine v_goto (tgt := 37) C dX6_values_74 (by decide) ?_
      first
      | (have e9 := insN_t (p := q) (h := fun j => dgt (ar 4 j) mk) (i := i) (by simp [*]; done)
         exact ih (i + 1) (by omega) zw zH (by rw [e9]; exact hM) hF (by rw [e9]; exact hU))
      | (have e9 := insN_f (p := q) (h := fun j => dgt (ar 4 j) mk) (i := i) (by simp [*]; done)
         exact ih (i + 1) (by omega) zw zH (by rw [e9]; exact hM) hF (by rw [e9]; exact hU))
theorem kwX6_values_109 : Cond.fieldLink RX6 109 "SeriesMarksModel" "unlikes" "I" ∈ wsX6_values := by decide +kernel
set_option maxHeartbeats 4000000 in
set_option maxRecDepth 100000 in
theorem c_X6_values (l : Launch) (E : gE) (zw : va_W) {ad : Nat → Nat} {g : Nat → Int32} {ar : Nat → Nat → Int32} (hM : mAt zw (mcl E ad g ar)) {tk ns np na : Nat} (hI : MI g ar tk ns np na) (mk f t : Int32) : CtI l yX6_values wsX6_values ({ frames := 2, cells := 0, slots := 0, locals := 47 }) E [.ref (ad 0), .int mk, .int f, .int t] zw (fun r w1 => ∃ (g1 : Nat → Int32) (ar1 : Nat → Nat → Int32), mAt w1 (mcl E ad g1 ar1) ∧ mFr zw w1 ∧ mSc g ar g1 ar1 ∧ r = if 0 ≤ mk.toInt ∧ mk.toInt ≤ 5 then (if 0 ≤ t.toInt ∧ t.toInt ≤ (g 0).toInt ∧ 0 ≤ f.toInt ∧ f.toInt ≤ t.toInt then nI (insN (fun j => senB (inSp (ar 12) f t) (ar 11) j np) (fun j => dgt (ar 4 j) mk) ns).length else (-2)) else (-1)) 0 0 := by
  refine Ct.of (cc := cX6_values) (nL := 6) (ret := (some .int)) (by decide) rfl (Nat.le_of_ble_eq_true rfl) ?_
  intro p e s m args below meth c C hr hnm
  refine v_eqlv (lv9 := [(0, .ref (ad 0)), (1, .int mk), (2, .int f), (3, .int t)]) rfl ?_
  obtain ⟨w0, hw0⟩ : ∃ w0 : va_W, w0 = zw := ⟨_, rfl⟩
  have hF : mFr w0 zw := by rw [hw0]; exact mFr.rf zw
  refine v_iload_n C dX6_values_0 rfl rfl ?_
  refine v_callSi C (c_X6_isMark l E zw _) (va_cwS 1 C.1.2.2.2.2 gX6_values_X6_isMark rfl rfl rfl (by decide +kernel) ⟨by decide, by decide⟩) rfl rfl (Nat.le_of_ble_eq_true rfl) dX6_values_1 ⟨Nat.le_of_ble_eq_true rfl, Nat.le_of_ble_eq_true rfl⟩ (fun r w1 hp => ?_)
  obtain ⟨rfl, rfl⟩ := hp
  refine v_if_ne (tgt := 9) C dX6_values_4 (by decide) (fun c4 => ?_) (fun c4 => ?_)
  · have c4 := b01_n c4
    refine v_aload_n C dX6_values_9 rfl rfl ?_
    refine v_iload_n C dX6_values_10 rfl rfl ?_
    refine v_iload_n C dX6_values_11 rfl rfl ?_
    refine v_callVi C (c_X6_isSpan l E zw hM _ _) (cwV 2 C.1.2.2.2.2 gX6_values_X6_isSpan rfl rfl rfl (by decide +kernel) ⟨by decide, by decide⟩) 12 7 (hM 0 _ rfl) rfl rfl rfl (Nat.le_of_ble_eq_true rfl) dX6_values_12 ⟨Nat.le_of_ble_eq_true rfl, Nat.le_of_ble_eq_true rfl⟩ (fun r w1 hp => ?_)
    obtain ⟨rfl, rfl⟩ := hp
    refine v_if_ne (tgt := 21) C dX6_values_15 (by decide) (fun c15 => ?_) (fun c15 => ?_)
    · have c15 := b01_n c15
      refine v_aload_n C dX6_values_21 rfl rfl ?_
      refine v_iload_n C dX6_values_22 rfl rfl ?_
      refine v_iload_n C dX6_values_23 rfl rfl ?_
      refine v_callVi C (c_X6_look l E zw hM hI _ _) (cwV 2 C.1.2.2.2.2 gX6_values_X6_look rfl rfl rfl (by decide +kernel) ⟨by decide, by decide⟩) 12 7 (hM 0 _ rfl) rfl rfl rfl (Nat.le_of_ble_eq_true rfl) dX6_values_24 ⟨Nat.le_of_ble_eq_true rfl, Nat.le_of_ble_eq_true rfl⟩ (fun r zw hp => ?_)
      obtain ⟨zF, hM, hF1, hz, rfl⟩ := hp
      have hF := hF.tr hF1
      refine v_istore C dX6_values_27 (by decide) rfl ?_
      refine v_aload_n C dX6_values_29 rfl rfl ?_
      refine v_iconst (v := 0) C dX6_values_30 (by decide) ?_
      refine vm_puti C hM hF inX6_values_X6 15 (by decide) kwX6_values_109 rfl rfl (by decide +kernel) rfl dX6_values_31 (fun zw hM hF => ?_)
      refine v_iconst (v := 0) C dX6_values_34 (by decide) ?_
      refine v_at (pc9 := 35) rfl ?_
      refine v_tov nI_0.symm ?_
      refine v_istore C dX6_values_35 (by decide) rfl ?_
      refine lp_X6_values (w0 := w0) (q := (fun j => senB (inSp (ar 12) f t) (ar 11) j np)) C (hI.sc (mSc.f zF)) (mk := mk) hz ?_ ns 0 (Nat.zero_add _) zw (ar 16) (by rw [show ar 16 = (va_up ar 14 zF) 16 from rfl, bx_k]; exact hM) hF (UL.nil _)
      intro zw zH hM hF hU
      refine v_aload_n C dX6_values_77 rfl rfl ?_
      refine vm_get (v := .int (upd g 15 (nI (insN (fun j => senB (inSp (ar 12) f t) (ar 11) j np) (fun j => dgt (ar 4 j) mk) ns).length) 15)) C hM inX6_values_X6 15 (by decide) kwX6_values_109 rfl rfl dX6_values_78 ?_
      rw [pk_us]
      exact v_iret C hr dX6_values_81 (Nat.le_refl _) (Nat.le_refl _) ⟨_, rfl, (by first | exact ⟨_, _, hM, hw0 ▸ hF, (mSc.f zF).tr ((mSc.u _).tr (mSc.h zH)), by rw [if_pos c4, if_pos c15] <;> rfl⟩ | exact ⟨g, ar, hM, hw0 ▸ hF, mSc.rf g ar, by first | (rw [if_neg c4]; done) | (rw [if_pos c4, if_neg c15]; done)⟩)⟩
    · have c15 := b01_0 c15
      refine v_bipush (v := (-2)) C dX6_values_18 (by decide) ?_
      exact v_iret C hr dX6_values_20 (Nat.le_refl _) (Nat.le_refl _) ⟨_, rfl, (by first | exact ⟨_, _, hM, hw0 ▸ hF, (mSc.f zF).tr ((mSc.u _).tr (mSc.h zH)), by rw [if_pos c4, if_pos c15] <;> rfl⟩ | exact ⟨g, ar, hM, hw0 ▸ hF, mSc.rf g ar, by first | (rw [if_neg c4]; done) | (rw [if_pos c4, if_neg c15]; done)⟩)⟩
  · have c4 := b01_0 c4
    refine v_iconst (v := (-1)) C dX6_values_7 (by decide) ?_
    exact v_iret C hr dX6_values_8 (Nat.le_refl _) (Nat.le_refl _) ⟨_, rfl, (by first | exact ⟨_, _, hM, hw0 ▸ hF, (mSc.f zF).tr ((mSc.u _).tr (mSc.h zH)), by rw [if_pos c4, if_pos c15] <;> rfl⟩ | exact ⟨g, ar, hM, hw0 ▸ hF, mSc.rf g ar, by first | (rw [if_neg c4]; done) | (rw [if_pos c4, if_neg c15]; done)⟩)⟩
theorem inX6_findKeys_X6 : ∀ x ∈ wsX60, x ∈ wsX6_findKeys := by decide +kernel
theorem kwX6_findKeys_81 : Cond.fieldLink RX6 81 "SeriesMarksModel" "series" "I" ∈ wsX6_findKeys := by decide +kernel
theorem kwX6_findKeys_44 : Cond.fieldLink RX6 44 "SeriesMarksModel" "isSeen" "[Z" ∈ wsX6_findKeys := by decide +kernel
theorem kwX6_findKeys_17 : Cond.fieldLink RX6 17 "SeriesMarksModel" "name" "[I" ∈ wsX6_findKeys := by decide +kernel
set_option maxHeartbeats 4000000 in
set_option maxRecDepth 100000 in
theorem lp_X6_findKeys {p : Program} {l : Launch} {e : Env} {s : State} {m : MethodId} {args : Array Value} {below : List Frame} {meth : Method} {c : Code} {Q : State → Prop} {E : gE} {w0 : va_W} (C : gC p s m args meth c E cX6_findKeys 6 wsX6_findKeys yX6_findKeys.cls) {ad : Nat → Nat} {g : Nat → Int32} {ar : Nat → Nat → Int32} {tk ns np na : Nat} (hI : MI g ar tk ns np na) {a f t n4 : Int32} (hw1 : 0 ≤ a.toInt) (hw2 : a.toInt < na) {q : Nat → Bool} (hq : ∀ j, j < ns → ar 14 j = b01 (q j = true))  (hK : ∀ (zw : va_W) (zH : Nat → Int32), mAt zw (mcl E ad (upd g 15 (nI (insN (fun j => q j && decide (ar 19 a.toNatClampNeg = (-9) ∨ dgt (ar 4 j) (ar 19 a.toNatClampNeg) = ar 20 a.toNatClampNeg)) (fun j => woI (ar 4 j) (63 &&& (ar 18 a.toNatClampNeg ^^^ (-1))) 6) ns).length)) (va_up ar 16 zH)) → mFr w0 zw → UL zH (insN (fun j => q j && decide (ar 19 a.toNatClampNeg = (-9) ∨ dgt (ar 4 j) (ar 19 a.toNatClampNeg) = ar 20 a.toNatClampNeg)) (fun j => woI (ar 4 j) (63 &&& (ar 18 a.toNatClampNeg ^^^ (-1))) 6) ns) → V p l e ({ frames := 2, cells := 0, slots := 0, locals := 45 }) s m args below meth c E 6 zw 0 0 Q 72 [(0, .ref (ad 0)), (1, .int a), (2, .int f), (3, .int t), (4, .int n4), (5, .int (nI ns))] []) : ∀ n i : Nat, i + n = ns → ∀ (zw : va_W) (zH : Nat → Int32), mAt zw (mcl E ad (upd g 15 (nI (insN (fun j => q j && decide (ar 19 a.toNatClampNeg = (-9) ∨ dgt (ar 4 j) (ar 19 a.toNatClampNeg) = ar 20 a.toNatClampNeg)) (fun j => woI (ar 4 j) (63 &&& (ar 18 a.toNatClampNeg ^^^ (-1))) 6) i).length)) (va_up ar 16 zH)) → mFr w0 zw → UL zH (insN (fun j => q j && decide (ar 19 a.toNatClampNeg = (-9) ∨ dgt (ar 4 j) (ar 19 a.toNatClampNeg) = ar 20 a.toNatClampNeg)) (fun j => woI (ar 4 j) (63 &&& (ar 18 a.toNatClampNeg ^^^ (-1))) 6) i) → V p l e ({ frames := 2, cells := 0, slots := 0, locals := 45 }) s m args below meth c E 6 zw 0 0 Q 16 [(0, .ref (ad 0)), (1, .int a), (2, .int f), (3, .int t), (4, .int n4), (5, .int (nI i))] [] := by
  intro n
  induction n with
  | zero =>
    intro i hi zw zH hM hF hU
    obtain rfl : i = ns := by omega
    refine v_iload C dX6_findKeys_16 rfl ?_
    refine v_aload_n C dX6_findKeys_18 rfl rfl ?_
    refine vm_get (v := .int (g 3)) C hM inX6_findKeys_X6 3 (by decide) kwX6_findKeys_81 rfl rfl dX6_findKeys_19 ?_
    refine v_icmp_ge (tgt := 72) C dX6_findKeys_22 (by decide) (fun c22 => ?_) (fun c22 => absurd (by rw [hI.2.1.1]; exact nI_le (Nat.le_refl _) (by have := hI.ser.2; omega)) c22)
    exact hK zw zH hM hF hU
  | succ n ih =>
    intro i hi zw zH hM hF hU
    refine v_iload C dX6_findKeys_16 rfl ?_
    refine v_aload_n C dX6_findKeys_18 rfl rfl ?_
    refine vm_get (v := .int (g 3)) C hM inX6_findKeys_X6 3 (by decide) kwX6_findKeys_81 rfl rfl dX6_findKeys_19 ?_
    refine v_icmp_ge (tgt := 72) C dX6_findKeys_22 (by decide) (fun c22 => absurd c22 (by rw [hI.2.1.1]; exact nI_ge (by omega) (by have := hI.ser.2; omega))) (fun c22 => ?_)
    refine v_aload_n C dX6_findKeys_25 rfl rfl ?_
    refine vm_get (v := .ref (ad 14)) C hM inX6_findKeys_X6 14 (by decide) kwX6_findKeys_44 rfl rfl dX6_findKeys_26 ?_
    refine v_iload C dX6_findKeys_29 rfl ?_
    refine vm_zald (f := ar 14) C hM 12 rfl (vp_in_nI (by have := hI.ser.2; omega) (by decide)) dX6_findKeys_31 ?_
    rw [nI_clamp (show i < 2 ^ 31 by have := hI.ser.2; omega)]
    refine v_if_eq (tgt := 66) C dX6_findKeys_32 (by decide) (fun c32 => ?_) (fun c32 => ?_)
    · have hq1 := q_f (hq i (by omega)) c32
      refine v_iincN C dX6_findKeys_66 rfl (by decide) rfl ?_
      refine v_goto (tgt := 16) C dX6_findKeys_69 (by decide) ?_
      first
      | (have e9 := insN_t (p := fun j => q j && decide (ar 19 a.toNatClampNeg = (-9) ∨ dgt (ar 4 j) (ar 19 a.toNatClampNeg) = ar 20 a.toNatClampNeg)) (h := fun j => woI (ar 4 j) (63 &&& (ar 18 a.toNatClampNeg ^^^ (-1))) 6) (i := i) (by simp [*]; done)
         exact ih (i + 1) (by omega) zw zH (by rw [e9]; exact hM) hF (by rw [e9]; exact hU))
      | (have e9 := insN_f (p := fun j => q j && decide (ar 19 a.toNatClampNeg = (-9) ∨ dgt (ar 4 j) (ar 19 a.toNatClampNeg) = ar 20 a.toNatClampNeg)) (h := fun j => woI (ar 4 j) (63 &&& (ar 18 a.toNatClampNeg ^^^ (-1))) 6) (i := i) (by simp [*]; done)
         exact ih (i + 1) (by omega) zw zH (by rw [e9]; exact hM) hF (by rw [e9]; exact hU))
    · have hq1 := q_t (hq i (by omega)) c32
      refine v_aload_n C dX6_findKeys_35 rfl rfl ?_
      refine v_iload_n C dX6_findKeys_36 rfl rfl ?_
      refine v_aload_n C dX6_findKeys_37 rfl rfl ?_
      refine vm_get (v := .ref (ad 4)) C hM inX6_findKeys_X6 4 (by decide) kwX6_findKeys_17 rfl rfl dX6_findKeys_38 ?_
      refine v_iload C dX6_findKeys_41 rfl ?_
      refine vm_iald (f := ar 4) C hM 3 rfl (vp_in_nI (by have := hI.ser.2; omega) (by decide)) dX6_findKeys_43 ?_
      rw [nI_clamp (show i < 2 ^ 31 by have := hI.ser.2; omega)]
      refine v_callVi C (c_X6_isWanted l E zw hM (hI.sc ((mSc.u _).tr (mSc.h zH))) _ _ hw1 hw2) (cwV 2 C.1.2.2.2.2 gX6_findKeys_X6_isWanted rfl rfl rfl (by decide +kernel) ⟨by decide, by decide⟩) 12 7 (hM 0 _ rfl) rfl rfl rfl (Nat.le_of_ble_eq_true rfl) dX6_findKeys_44 ⟨Nat.le_of_ble_eq_true rfl, Nat.le_of_ble_eq_true rfl⟩ (fun r w1 hp => ?_)
      obtain ⟨rfl, hr9⟩ := hp
      rw [hr9]
      clear hr9
      refine v_if_eq (tgt := 66) C dX6_findKeys_47 (by decide) (fun c47 => ?_) (fun c47 => ?_)
      · have hw9 : ¬ (ar 19 a.toNatClampNeg = (-9) ∨ dgt (ar 4 i) (ar 19 a.toNatClampNeg) = ar 20 a.toNatClampNeg) := b01_0 c47
        refine v_iincN C dX6_findKeys_66 rfl (by decide) rfl ?_
        refine v_goto (tgt := 16) C dX6_findKeys_69 (by decide) ?_
        first
        | (have e9 := insN_t (p := fun j => q j && decide (ar 19 a.toNatClampNeg = (-9) ∨ dgt (ar 4 j) (ar 19 a.toNatClampNeg) = ar 20 a.toNatClampNeg)) (h := fun j => woI (ar 4 j) (63 &&& (ar 18 a.toNatClampNeg ^^^ (-1))) 6) (i := i) (by simp [*]; done)
           exact ih (i + 1) (by omega) zw zH (by rw [e9]; exact hM) hF (by rw [e9]; exact hU))
        | (have e9 := insN_f (p := fun j => q j && decide (ar 19 a.toNatClampNeg = (-9) ∨ dgt (ar 4 j) (ar 19 a.toNatClampNeg) = ar 20 a.toNatClampNeg)) (h := fun j => woI (ar 4 j) (63 &&& (ar 18 a.toNatClampNeg ^^^ (-1))) 6) (i := i) (by simp [*]; done)
           exact ih (i + 1) (by omega) zw zH (by rw [e9]; exact hM) hF (by rw [e9]; exact hU))
      · have hw9 : (ar 19 a.toNatClampNeg = (-9) ∨ dgt (ar 4 i) (ar 19 a.toNatClampNeg) = ar 20 a.toNatClampNeg) := b01_n c47
        refine v_aload_n C dX6_findKeys_50 rfl rfl ?_
        refine v_aload_n C dX6_findKeys_51 rfl rfl ?_
        refine v_iload_n C dX6_findKeys_52 rfl rfl ?_
        refine v_aload_n C dX6_findKeys_53 rfl rfl ?_
        refine vm_get (v := .ref (ad 4)) C hM inX6_findKeys_X6 4 (by decide) kwX6_findKeys_17 rfl rfl dX6_findKeys_54 ?_
        refine v_iload C dX6_findKeys_57 rfl ?_
        refine vm_iald (f := ar 4) C hM 3 rfl (vp_in_nI (by have := hI.ser.2; omega) (by decide)) dX6_findKeys_59 ?_
        rw [nI_clamp (show i < 2 ^ 31 by have := hI.ser.2; omega)]
        refine v_callVi C (c_X6_keyOf l E zw hM (hI.sc ((mSc.u _).tr (mSc.h zH))) _ _ hw1 hw2) (cwV 2 C.1.2.2.2.2 gX6_findKeys_X6_keyOf rfl rfl rfl (by decide +kernel) ⟨by decide, by decide⟩) 12 7 (hM 0 _ rfl) rfl rfl rfl (Nat.le_of_ble_eq_true rfl) dX6_findKeys_60 ⟨Nat.le_of_ble_eq_true rfl, Nat.le_of_ble_eq_true rfl⟩ (fun r w1 hp => ?_)
        obtain ⟨rfl, hr9⟩ := hp
        rw [hr9]
        clear hr9
        refine v_callVu C (c_X6_note l E zw hM (insN_sor _ _ i) hU pk_us (by have := insN_len (fun j => q j && decide (ar 19 a.toNatClampNeg = (-9) ∨ dgt (ar 4 j) (ar 19 a.toNatClampNeg) = ar 20 a.toNatClampNeg)) (fun j => woI (ar 4 j) (63 &&& (ar 18 a.toNatClampNeg ^^^ (-1))) 6) i; have := hI.ser.2; omega) _) (cwV 1 C.1.2.2.2.2 gX6_findKeys_X6_note rfl rfl rfl (by decide +kernel) ⟨by decide, by decide⟩) 12 7 (hM 0 _ rfl) rfl rfl rfl (Nat.le_of_ble_eq_true rfl) dX6_findKeys_63 ⟨Nat.le_of_ble_eq_true rfl, Nat.le_of_ble_eq_true rfl⟩ (fun zw hp => ?_)
        obtain ⟨zH, hM, hF1, hU⟩ := hp
        have hF := hF.tr hF1
        rw [fa_upd_twice, bx_uu] at hM
        refine v_iincN C dX6_findKeys_66 rfl (by decide) rfl ?_
        refine v_goto (tgt := 16) C dX6_findKeys_69 (by decide) ?_
        first
        | (have e9 := insN_t (p := fun j => q j && decide (ar 19 a.toNatClampNeg = (-9) ∨ dgt (ar 4 j) (ar 19 a.toNatClampNeg) = ar 20 a.toNatClampNeg)) (h := fun j => woI (ar 4 j) (63 &&& (ar 18 a.toNatClampNeg ^^^ (-1))) 6) (i := i) (by simp [*]; done)
           exact ih (i + 1) (by omega) zw zH (by rw [e9]; exact hM) hF (by rw [e9]; exact hU))
        | (have e9 := insN_f (p := fun j => q j && decide (ar 19 a.toNatClampNeg = (-9) ∨ dgt (ar 4 j) (ar 19 a.toNatClampNeg) = ar 20 a.toNatClampNeg)) (h := fun j => woI (ar 4 j) (63 &&& (ar 18 a.toNatClampNeg ^^^ (-1))) 6) (i := i) (by simp [*]; done)
           exact ih (i + 1) (by omega) zw zH (by rw [e9]; exact hM) hF (by rw [e9]; exact hU))
theorem kwX6_findKeys_109 : Cond.fieldLink RX6 109 "SeriesMarksModel" "unlikes" "I" ∈ wsX6_findKeys := by decide +kernel
set_option maxHeartbeats 4000000 in
set_option maxRecDepth 100000 in
theorem c_X6_findKeys (l : Launch) (E : gE) (zw : va_W) {ad : Nat → Nat} {g : Nat → Int32} {ar : Nat → Nat → Int32} (hM : mAt zw (mcl E ad g ar)) {tk ns np na : Nat} (hI : MI g ar tk ns np na) (a f t : Int32) (hw1 : 0 ≤ a.toInt) (hw2 : a.toInt < na) : CtI l yX6_findKeys wsX6_findKeys ({ frames := 2, cells := 0, slots := 0, locals := 45 }) E [.ref (ad 0), .int a, .int f, .int t] zw (fun r w1 => ∃ (g1 : Nat → Int32) (ar1 : Nat → Nat → Int32), mAt w1 (mcl E ad g1 ar1) ∧ mFr zw w1 ∧ mSc g ar g1 ar1 ∧ UL (ar1 16) (insN (fun j => senB (inSp (ar 12) f t) (ar 11) j np && decide (ar 19 a.toNatClampNeg = (-9) ∨ dgt (ar 4 j) (ar 19 a.toNatClampNeg) = ar 20 a.toNatClampNeg)) (fun j => woI (ar 4 j) (63 &&& (ar 18 a.toNatClampNeg ^^^ (-1))) 6) ns) ∧ r = nI (insN (fun j => senB (inSp (ar 12) f t) (ar 11) j np && decide (ar 19 a.toNatClampNeg = (-9) ∨ dgt (ar 4 j) (ar 19 a.toNatClampNeg) = ar 20 a.toNatClampNeg)) (fun j => woI (ar 4 j) (63 &&& (ar 18 a.toNatClampNeg ^^^ (-1))) 6) ns).length) 0 0 := by
  refine Ct.of (cc := cX6_findKeys) (nL := 6) (ret := (some .int)) (by decide) rfl (Nat.le_of_ble_eq_true rfl) ?_
  intro p e s m args below meth c C hr hnm
  refine v_eqlv (lv9 := [(0, .ref (ad 0)), (1, .int a), (2, .int f), (3, .int t)]) rfl ?_
  obtain ⟨w0, hw0⟩ : ∃ w0 : va_W, w0 = zw := ⟨_, rfl⟩
  have hF : mFr w0 zw := by rw [hw0]; exact mFr.rf zw
  refine v_aload_n C dX6_findKeys_0 rfl rfl ?_
  refine v_iload_n C dX6_findKeys_1 rfl rfl ?_
  refine v_iload_n C dX6_findKeys_2 rfl rfl ?_
  refine v_callVi C (c_X6_look l E zw hM hI _ _) (cwV 2 C.1.2.2.2.2 gX6_findKeys_X6_look rfl rfl rfl (by decide +kernel) ⟨by decide, by decide⟩) 12 7 (hM 0 _ rfl) rfl rfl rfl (Nat.le_of_ble_eq_true rfl) dX6_findKeys_3 ⟨Nat.le_of_ble_eq_true rfl, Nat.le_of_ble_eq_true rfl⟩ (fun r zw hp => ?_)
  obtain ⟨zF, hM, hF1, hz, rfl⟩ := hp
  have hF := hF.tr hF1
  refine v_istore C dX6_findKeys_6 (by decide) rfl ?_
  refine v_aload_n C dX6_findKeys_8 rfl rfl ?_
  refine v_iconst (v := 0) C dX6_findKeys_9 (by decide) ?_
  refine vm_puti C hM hF inX6_findKeys_X6 15 (by decide) kwX6_findKeys_109 rfl rfl (by decide +kernel) rfl dX6_findKeys_10 (fun zw hM hF => ?_)
  refine v_iconst (v := 0) C dX6_findKeys_13 (by decide) ?_
  refine v_at (pc9 := 14) rfl ?_
  refine v_tov nI_0.symm ?_
  refine v_istore C dX6_findKeys_14 (by decide) rfl ?_
  refine lp_X6_findKeys (w0 := w0) (q := (fun j => senB (inSp (ar 12) f t) (ar 11) j np)) C (hI.sc (mSc.f zF)) hw1 hw2 hz ?_ ns 0 (Nat.zero_add _) zw (ar 16) (by rw [show ar 16 = (va_up ar 14 zF) 16 from rfl, bx_k]; exact hM) hF (UL.nil _)
  intro zw zH hM hF hU
  refine v_aload_n C dX6_findKeys_72 rfl rfl ?_
  refine vm_get (v := .int (upd g 15 (nI (insN (fun j => senB (inSp (ar 12) f t) (ar 11) j np && decide (ar 19 a.toNatClampNeg = (-9) ∨ dgt (ar 4 j) (ar 19 a.toNatClampNeg) = ar 20 a.toNatClampNeg)) (fun j => woI (ar 4 j) (63 &&& (ar 18 a.toNatClampNeg ^^^ (-1))) 6) ns).length) 15)) C hM inX6_findKeys_X6 15 (by decide) kwX6_findKeys_109 rfl rfl dX6_findKeys_73 ?_
  rw [pk_us]
  exact v_iret C hr dX6_findKeys_76 (Nat.le_refl _) (Nat.le_refl _) ⟨_, rfl, ⟨_, _, hM, hw0 ▸ hF, (mSc.f zF).tr ((mSc.u _).tr (mSc.h zH)), hU, rfl⟩⟩
set_option maxHeartbeats 4000000 in
set_option maxRecDepth 100000 in
theorem c_X6_keys (l : Launch) (E : gE) (zw : va_W) {ad : Nat → Nat} {g : Nat → Int32} {ar : Nat → Nat → Int32} (hM : mAt zw (mcl E ad g ar)) {tk ns np na : Nat} (hI : MI g ar tk ns np na) (a f t : Int32) : CtI l yX6_keys wsX6_keys ({ frames := 3, cells := 0, slots := 0, locals := 70 }) E [.ref (ad 0), .int a, .int f, .int t] zw (fun r w1 => ∃ (g1 : Nat → Int32) (ar1 : Nat → Nat → Int32), mAt w1 (mcl E ad g1 ar1) ∧ mFr zw w1 ∧ mSc g ar g1 ar1 ∧ r = if 0 ≤ a.toInt ∧ a.toInt < na then (if 0 ≤ t.toInt ∧ t.toInt ≤ (g 0).toInt ∧ 0 ≤ f.toInt ∧ f.toInt ≤ t.toInt then nI (insN (fun j => senB (inSp (ar 12) f t) (ar 11) j np && decide (ar 19 a.toNatClampNeg = (-9) ∨ dgt (ar 4 j) (ar 19 a.toNatClampNeg) = ar 20 a.toNatClampNeg)) (fun j => woI (ar 4 j) (63 &&& (ar 18 a.toNatClampNeg ^^^ (-1))) 6) ns).length else (-2)) else (-1)) 0 0 := by
  refine Ct.of (cc := cX6_keys) (nL := 4) (ret := (some .int)) (by decide) rfl (Nat.le_of_ble_eq_true rfl) ?_
  intro p e s m args below meth c C hr hnm
  refine v_eqlv (lv9 := [(0, .ref (ad 0)), (1, .int a), (2, .int f), (3, .int t)]) rfl ?_
  refine v_aload_n C dX6_keys_0 rfl rfl ?_
  refine v_iload_n C dX6_keys_1 rfl rfl ?_
  refine v_callVi C (c_X6_isAsking l E zw hM hI _) (cwV 1 C.1.2.2.2.2 gX6_keys_X6_isAsking rfl rfl rfl (by decide +kernel) ⟨by decide, by decide⟩) 12 7 (hM 0 _ rfl) rfl rfl rfl (Nat.le_of_ble_eq_true rfl) dX6_keys_2 ⟨Nat.le_of_ble_eq_true rfl, Nat.le_of_ble_eq_true rfl⟩ (fun r w1 hp => ?_)
  obtain ⟨rfl, rfl⟩ := hp
  refine v_if_ne (tgt := 10) C dX6_keys_5 (by decide) (fun c5 => ?_) (fun c5 => ?_)
  · have c5 := b01_n c5
    refine v_aload_n C dX6_keys_10 rfl rfl ?_
    refine v_iload_n C dX6_keys_11 rfl rfl ?_
    refine v_iload_n C dX6_keys_12 rfl rfl ?_
    refine v_callVi C (c_X6_isSpan l E zw hM _ _) (cwV 2 C.1.2.2.2.2 gX6_keys_X6_isSpan rfl rfl rfl (by decide +kernel) ⟨by decide, by decide⟩) 12 7 (hM 0 _ rfl) rfl rfl rfl (Nat.le_of_ble_eq_true rfl) dX6_keys_13 ⟨Nat.le_of_ble_eq_true rfl, Nat.le_of_ble_eq_true rfl⟩ (fun r w1 hp => ?_)
    obtain ⟨rfl, rfl⟩ := hp
    refine v_if_eq (tgt := 29) C dX6_keys_16 (by decide) (fun c16 => ?_) (fun c16 => ?_)
    · have c16 := b01_0 c16
      refine v_bipush (v := (-2)) C dX6_keys_29 (by decide) ?_
      exact v_iret C hr dX6_keys_31 (Nat.le_refl _) (Nat.le_refl _) ⟨_, rfl, (by first | exact ⟨g1, ar1, hM, hF, hs, by rw [if_pos c5, if_pos c16]⟩ | exact ⟨g, ar, hM, mFr.rf _, mSc.rf g ar, by first | (rw [if_neg c5]; done) | (rw [if_pos c5, if_neg c16]; done)⟩)⟩
    · have c16 := b01_n c16
      refine v_aload_n C dX6_keys_19 rfl rfl ?_
      refine v_iload_n C dX6_keys_20 rfl rfl ?_
      refine v_iload_n C dX6_keys_21 rfl rfl ?_
      refine v_iload_n C dX6_keys_22 rfl rfl ?_
      refine v_callVi C (c_X6_findKeys l E zw hM hI _ _ _ c5.1 c5.2) (cwV 3 C.1.2.2.2.2 gX6_keys_X6_findKeys rfl rfl rfl (by decide +kernel) ⟨by decide, by decide⟩) 12 7 (hM 0 _ rfl) rfl rfl rfl (Nat.le_of_ble_eq_true rfl) dX6_keys_23 ⟨Nat.le_of_ble_eq_true rfl, Nat.le_of_ble_eq_true rfl⟩ (fun r zw hp => ?_)
      obtain ⟨g1, ar1, hM, hF, hs, hU, rfl⟩ := hp
      refine v_goto (tgt := 31) C dX6_keys_26 (by decide) ?_
      exact v_iret C hr dX6_keys_31 (Nat.le_refl _) (Nat.le_refl _) ⟨_, rfl, (by first | exact ⟨g1, ar1, hM, hF, hs, by rw [if_pos c5, if_pos c16]⟩ | exact ⟨g, ar, hM, mFr.rf _, mSc.rf g ar, by first | (rw [if_neg c5]; done) | (rw [if_pos c5, if_neg c16]; done)⟩)⟩
  · have c5 := b01_0 c5
    refine v_iconst (v := (-1)) C dX6_keys_8 (by decide) ?_
    exact v_iret C hr dX6_keys_9 (Nat.le_refl _) (Nat.le_refl _) ⟨_, rfl, (by first | exact ⟨g1, ar1, hM, hF, hs, by rw [if_pos c5, if_pos c16]⟩ | exact ⟨g, ar, hM, mFr.rf _, mSc.rf g ar, by first | (rw [if_neg c5]; done) | (rw [if_pos c5, if_neg c16]; done)⟩)⟩
theorem inX6_key_X6 : ∀ x ∈ wsX60, x ∈ wsX6_key := by decide +kernel
theorem kwX6_key_47 : Cond.fieldLink RX6 47 "SeriesMarksModel" "unlike" "[I" ∈ wsX6_key := by decide +kernel
set_option maxHeartbeats 4000000 in
set_option maxRecDepth 100000 in
theorem c_X6_key (l : Launch) (E : gE) (zw : va_W) {ad : Nat → Nat} {g : Nat → Int32} {ar : Nat → Nat → Int32} (hM : mAt zw (mcl E ad g ar)) {tk ns np na : Nat} (hI : MI g ar tk ns np na) (a i0 f t : Int32) : CtI l yX6_key wsX6_key ({ frames := 3, cells := 0, slots := 0, locals := 70 }) E [.ref (ad 0), .int a, .int i0, .int f, .int t] zw (fun r w1 => ∃ (g1 : Nat → Int32) (ar1 : Nat → Nat → Int32), mAt w1 (mcl E ad g1 ar1) ∧ mFr zw w1 ∧ mSc g ar g1 ar1 ∧ r = if 0 ≤ a.toInt ∧ a.toInt < na then (if 0 ≤ t.toInt ∧ t.toInt ≤ (g 0).toInt ∧ 0 ≤ f.toInt ∧ f.toInt ≤ t.toInt then (if 0 ≤ i0.toInt ∧ i0.toInt < (insN (fun j => senB (inSp (ar 12) f t) (ar 11) j np && decide (ar 19 a.toNatClampNeg = (-9) ∨ dgt (ar 4 j) (ar 19 a.toNatClampNeg) = ar 20 a.toNatClampNeg)) (fun j => woI (ar 4 j) (63 &&& (ar 18 a.toNatClampNeg ^^^ (-1))) 6) ns).length then (insN (fun j => senB (inSp (ar 12) f t) (ar 11) j np && decide (ar 19 a.toNatClampNeg = (-9) ∨ dgt (ar 4 j) (ar 19 a.toNatClampNeg) = ar 20 a.toNatClampNeg)) (fun j => woI (ar 4 j) (63 &&& (ar 18 a.toNatClampNeg ^^^ (-1))) 6) ns).getD i0.toInt.toNat (-9) else (-9)) else (-2)) else (-1)) 0 0 := by
  refine Ct.of (cc := cX6_key) (nL := 6) (ret := (some .int)) (by decide) rfl (Nat.le_of_ble_eq_true rfl) ?_
  intro p e s m args below meth c C hr hnm
  refine v_eqlv (lv9 := [(0, .ref (ad 0)), (1, .int a), (2, .int i0), (3, .int f), (4, .int t)]) rfl ?_
  refine v_aload_n C dX6_key_0 rfl rfl ?_
  refine v_iload_n C dX6_key_1 rfl rfl ?_
  refine v_callVi C (c_X6_isAsking l E zw hM hI _) (cwV 1 C.1.2.2.2.2 gX6_key_X6_isAsking rfl rfl rfl (by decide +kernel) ⟨by decide, by decide⟩) 12 7 (hM 0 _ rfl) rfl rfl rfl (Nat.le_of_ble_eq_true rfl) dX6_key_2 ⟨Nat.le_of_ble_eq_true rfl, Nat.le_of_ble_eq_true rfl⟩ (fun r w1 hp => ?_)
  obtain ⟨rfl, rfl⟩ := hp
  refine v_if_ne (tgt := 10) C dX6_key_5 (by decide) (fun c5 => ?_) (fun c5 => ?_)
  · have c5 := b01_n c5
    refine v_aload_n C dX6_key_10 rfl rfl ?_
    refine v_iload_n C dX6_key_11 rfl rfl ?_
    refine v_iload C dX6_key_12 rfl ?_
    refine v_callVi C (c_X6_isSpan l E zw hM _ _) (cwV 2 C.1.2.2.2.2 gX6_key_X6_isSpan rfl rfl rfl (by decide +kernel) ⟨by decide, by decide⟩) 12 7 (hM 0 _ rfl) rfl rfl rfl (Nat.le_of_ble_eq_true rfl) dX6_key_14 ⟨Nat.le_of_ble_eq_true rfl, Nat.le_of_ble_eq_true rfl⟩ (fun r w1 hp => ?_)
    obtain ⟨rfl, rfl⟩ := hp
    refine v_if_ne (tgt := 23) C dX6_key_17 (by decide) (fun c17 => ?_) (fun c17 => ?_)
    · have c17 := b01_n c17
      refine v_aload_n C dX6_key_23 rfl rfl ?_
      refine v_iload_n C dX6_key_24 rfl rfl ?_
      refine v_iload_n C dX6_key_25 rfl rfl ?_
      refine v_iload C dX6_key_26 rfl ?_
      refine v_callVi C (c_X6_findKeys l E zw hM hI _ _ _ c5.1 c5.2) (cwV 3 C.1.2.2.2.2 gX6_key_X6_findKeys rfl rfl rfl (by decide +kernel) ⟨by decide, by decide⟩) 12 7 (hM 0 _ rfl) rfl rfl rfl (Nat.le_of_ble_eq_true rfl) dX6_key_28 ⟨Nat.le_of_ble_eq_true rfl, Nat.le_of_ble_eq_true rfl⟩ (fun r zw hp => ?_)
      obtain ⟨g1, ar1, hM, hF, hs, hU, rfl⟩ := hp
      have hl9 := insN_len (fun j => senB (inSp (ar 12) f t) (ar 11) j np && decide (ar 19 a.toNatClampNeg = (-9) ∨ dgt (ar 4 j) (ar 19 a.toNatClampNeg) = ar 20 a.toNatClampNeg)) (fun j => woI (ar 4 j) (63 &&& (ar 18 a.toNatClampNeg ^^^ (-1))) 6) ns
      have hn9 := hI.ser.2
      refine v_istore C dX6_key_31 (by decide) rfl ?_
      refine v_iload_n C dX6_key_33 rfl rfl ?_
      refine v_i2l C dX6_key_34 rfl ?_
      refine v_lconst (v := 0) C dX6_key_35 (by decide) ?_
      refine v_at (pc9 := 36) rfl ?_
      refine v_iload C dX6_key_36 rfl ?_
      refine v_iconst (v := 1) C dX6_key_38 (by decide) ?_
      refine v_isub C dX6_key_39 ?_
      refine v_i2l C dX6_key_40 rfl ?_
      refine v_callSi C (c_X6_in l E zw _ _ _) (va_cwS 3 C.1.2.2.2.2 gX6_key_X6_in rfl rfl rfl (by decide +kernel) ⟨by decide, by decide⟩) rfl rfl (Nat.le_of_ble_eq_true rfl) dX6_key_41 ⟨Nat.le_of_ble_eq_true rfl, Nat.le_of_ble_eq_true rfl⟩ (fun r w1 hp => ?_)
      obtain ⟨rfl, rfl⟩ := hp
      refine v_if_eq (tgt := 56) C dX6_key_44 (by decide) (fun c44 => ?_) (fun c44 => ?_)
      · have c44 := b01_0 c44
        simp only [t64, tl_0] at c44
        rw [fb_subI (by rw [nI_toInt (by omega), ti_1]; omega) (by rw [nI_toInt (by omega), ti_1]; omega), nI_toInt (by omega), ti_1] at c44
        refine v_bipush (v := (-9)) C dX6_key_56 (by decide) ?_
        exact v_iret C hr dX6_key_58 (Nat.le_refl _) (Nat.le_refl _) ⟨_, rfl, (by first
          | exact ⟨g1, ar1, hM, hF, hs, by rw [if_pos c5, if_pos c17, if_pos (show 0 ≤ i0.toInt ∧ i0.toInt < (insN (fun j => senB (inSp (ar 12) f t) (ar 11) j np && decide (ar 19 a.toNatClampNeg = (-9) ∨ dgt (ar 4 j) (ar 19 a.toNatClampNeg) = ar 20 a.toNatClampNeg)) (fun j => woI (ar 4 j) (63 &&& (ar 18 a.toNatClampNeg ^^^ (-1))) 6) ns).length by omega), clamp_of_toInt (n := i0.toInt.toNat) (by omega) (by omega), hU _ (by omega)]; exact (List.getElem_eq_getD _)⟩
          | exact ⟨g1, ar1, hM, hF, hs, by rw [if_pos c5, if_pos c17, if_neg (show ¬ (0 ≤ i0.toInt ∧ i0.toInt < (insN (fun j => senB (inSp (ar 12) f t) (ar 11) j np && decide (ar 19 a.toNatClampNeg = (-9) ∨ dgt (ar 4 j) (ar 19 a.toNatClampNeg) = ar 20 a.toNatClampNeg)) (fun j => woI (ar 4 j) (63 &&& (ar 18 a.toNatClampNeg ^^^ (-1))) 6) ns).length) by omega)]⟩
          | exact ⟨g, ar, hM, mFr.rf _, mSc.rf g ar, by first | (rw [if_neg c5]; done) | (rw [if_pos c5, if_neg c17]; done)⟩)⟩
      · have c44 := b01_n c44
        simp only [t64, tl_0] at c44
        rw [fb_subI (by rw [nI_toInt (by omega), ti_1]; omega) (by rw [nI_toInt (by omega), ti_1]; omega), nI_toInt (by omega), ti_1] at c44
        refine v_aload_n C dX6_key_47 rfl rfl ?_
        refine vm_get (v := .ref (ad 16)) C hM inX6_key_X6 16 (by decide) kwX6_key_47 rfl rfl dX6_key_48 ?_
        refine v_iload_n C dX6_key_51 rfl rfl ?_
        refine vm_iald (f := ar1 16) C hM 13 rfl (in_of (by omega) (by omega)) dX6_key_52 ?_
        refine v_goto (tgt := 58) C dX6_key_53 (by decide) ?_
        exact v_iret C hr dX6_key_58 (Nat.le_refl _) (Nat.le_refl _) ⟨_, rfl, (by first
          | exact ⟨g1, ar1, hM, hF, hs, by rw [if_pos c5, if_pos c17, if_pos (show 0 ≤ i0.toInt ∧ i0.toInt < (insN (fun j => senB (inSp (ar 12) f t) (ar 11) j np && decide (ar 19 a.toNatClampNeg = (-9) ∨ dgt (ar 4 j) (ar 19 a.toNatClampNeg) = ar 20 a.toNatClampNeg)) (fun j => woI (ar 4 j) (63 &&& (ar 18 a.toNatClampNeg ^^^ (-1))) 6) ns).length by omega), clamp_of_toInt (n := i0.toInt.toNat) (by omega) (by omega), hU _ (by omega)]; exact (List.getElem_eq_getD _)⟩
          | exact ⟨g1, ar1, hM, hF, hs, by rw [if_pos c5, if_pos c17, if_neg (show ¬ (0 ≤ i0.toInt ∧ i0.toInt < (insN (fun j => senB (inSp (ar 12) f t) (ar 11) j np && decide (ar 19 a.toNatClampNeg = (-9) ∨ dgt (ar 4 j) (ar 19 a.toNatClampNeg) = ar 20 a.toNatClampNeg)) (fun j => woI (ar 4 j) (63 &&& (ar 18 a.toNatClampNeg ^^^ (-1))) 6) ns).length) by omega)]⟩
          | exact ⟨g, ar, hM, mFr.rf _, mSc.rf g ar, by first | (rw [if_neg c5]; done) | (rw [if_pos c5, if_neg c17]; done)⟩)⟩
    · have c17 := b01_0 c17
      refine v_bipush (v := (-2)) C dX6_key_20 (by decide) ?_
      exact v_iret C hr dX6_key_22 (Nat.le_refl _) (Nat.le_refl _) ⟨_, rfl, (by first
        | exact ⟨g1, ar1, hM, hF, hs, by rw [if_pos c5, if_pos c17, if_pos (show 0 ≤ i0.toInt ∧ i0.toInt < (insN (fun j => senB (inSp (ar 12) f t) (ar 11) j np && decide (ar 19 a.toNatClampNeg = (-9) ∨ dgt (ar 4 j) (ar 19 a.toNatClampNeg) = ar 20 a.toNatClampNeg)) (fun j => woI (ar 4 j) (63 &&& (ar 18 a.toNatClampNeg ^^^ (-1))) 6) ns).length by omega), clamp_of_toInt (n := i0.toInt.toNat) (by omega) (by omega), hU _ (by omega)]; exact (List.getElem_eq_getD _)⟩
        | exact ⟨g1, ar1, hM, hF, hs, by rw [if_pos c5, if_pos c17, if_neg (show ¬ (0 ≤ i0.toInt ∧ i0.toInt < (insN (fun j => senB (inSp (ar 12) f t) (ar 11) j np && decide (ar 19 a.toNatClampNeg = (-9) ∨ dgt (ar 4 j) (ar 19 a.toNatClampNeg) = ar 20 a.toNatClampNeg)) (fun j => woI (ar 4 j) (63 &&& (ar 18 a.toNatClampNeg ^^^ (-1))) 6) ns).length) by omega)]⟩
        | exact ⟨g, ar, hM, mFr.rf _, mSc.rf g ar, by first | (rw [if_neg c5]; done) | (rw [if_pos c5, if_neg c17]; done)⟩)⟩
  · have c5 := b01_0 c5
    refine v_iconst (v := (-1)) C dX6_key_8 (by decide) ?_
    exact v_iret C hr dX6_key_9 (Nat.le_refl _) (Nat.le_refl _) ⟨_, rfl, (by first
      | exact ⟨g1, ar1, hM, hF, hs, by rw [if_pos c5, if_pos c17, if_pos (show 0 ≤ i0.toInt ∧ i0.toInt < (insN (fun j => senB (inSp (ar 12) f t) (ar 11) j np && decide (ar 19 a.toNatClampNeg = (-9) ∨ dgt (ar 4 j) (ar 19 a.toNatClampNeg) = ar 20 a.toNatClampNeg)) (fun j => woI (ar 4 j) (63 &&& (ar 18 a.toNatClampNeg ^^^ (-1))) 6) ns).length by omega), clamp_of_toInt (n := i0.toInt.toNat) (by omega) (by omega), hU _ (by omega)]; exact (List.getElem_eq_getD _)⟩
      | exact ⟨g1, ar1, hM, hF, hs, by rw [if_pos c5, if_pos c17, if_neg (show ¬ (0 ≤ i0.toInt ∧ i0.toInt < (insN (fun j => senB (inSp (ar 12) f t) (ar 11) j np && decide (ar 19 a.toNatClampNeg = (-9) ∨ dgt (ar 4 j) (ar 19 a.toNatClampNeg) = ar 20 a.toNatClampNeg)) (fun j => woI (ar 4 j) (63 &&& (ar 18 a.toNatClampNeg ^^^ (-1))) 6) ns).length) by omega)]⟩
      | exact ⟨g, ar, hM, mFr.rf _, mSc.rf g ar, by first | (rw [if_neg c5]; done) | (rw [if_pos c5, if_neg c17]; done)⟩)⟩
