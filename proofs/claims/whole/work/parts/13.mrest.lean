theorem shI_c {ar ar1 : Nat → Nat → Int32} (h1 : ar1 1 = ar 1) (h2 : ar1 2 = ar 2) (x : Int32) (tt : Nat) : ∀ m, shI ar1 x tt m = shI ar x tt m
  | 0 => rfl
  | m + 1 => by unfold shI; rw [shI_c h1 h2 x tt m, h1, h2]
theorem inX6_kept_X6 : ∀ x ∈ wsX60, x ∈ wsX6_kept := by decide +kernel
theorem kwX6_kept_94 : Cond.fieldLink RX6 94 "SeriesMarksModel" "samples" "I" ∈ wsX6_kept := by decide +kernel
theorem kwX6_kept_38 : Cond.fieldLink RX6 38 "SeriesMarksModel" "at" "[I" ∈ wsX6_kept := by decide +kernel
theorem kwX6_kept_17 : Cond.fieldLink RX6 17 "SeriesMarksModel" "name" "[I" ∈ wsX6_kept := by decide +kernel
theorem kwX6_kept_35 : Cond.fieldLink RX6 35 "SeriesMarksModel" "of" "[I" ∈ wsX6_kept := by decide +kernel
set_option maxHeartbeats 4000000 in
set_option maxRecDepth 100000 in
theorem lp_X6_kept {p : Program} {l : Launch} {e : Env} {s : State} {m : MethodId} {args : Array Value} {below : List Frame} {meth : Method} {c : Code} {Q : State → Prop} {E : gE} {w0 : va_W} (C : gC p s m args meth c E cX6_kept 4 wsX6_kept yX6_kept.cls) {ad : Nat → Nat} {g : Nat → Int32} {ar : Nat → Nat → Int32} {tk ns np na : Nat} (hI : MI g ar tk ns np na) {f t : Int32} (hK : ∀ (zw : va_W) (zH : Nat → Int32), mAt zw (mcl E ad (upd g 15 (nI (insN (inSp (ar 12) f t) (fun j => shI ar (ar 4 (ar 11 j).toNatClampNeg) (ar 12 j).toNatClampNeg 6) np).length)) (va_up ar 16 zH)) → mFr w0 zw → UL zH (insN (inSp (ar 12) f t) (fun j => shI ar (ar 4 (ar 11 j).toNatClampNeg) (ar 12 j).toNatClampNeg 6) np) → V p l e ({ frames := 2, cells := 0, slots := 0, locals := 47 }) s m args below meth c E 4 zw 0 0 Q 78 [(0, .ref (ad 0)), (1, .int f), (2, .int t), (3, .int (nI np))] []) : ∀ n i : Nat, i + n = np → ∀ (zw : va_W) (zH : Nat → Int32), mAt zw (mcl E ad (upd g 15 (nI (insN (inSp (ar 12) f t) (fun j => shI ar (ar 4 (ar 11 j).toNatClampNeg) (ar 12 j).toNatClampNeg 6) i).length)) (va_up ar 16 zH)) → mFr w0 zw → UL zH (insN (inSp (ar 12) f t) (fun j => shI ar (ar 4 (ar 11 j).toNatClampNeg) (ar 12 j).toNatClampNeg 6) i) → V p l e ({ frames := 2, cells := 0, slots := 0, locals := 47 }) s m args below meth c E 4 zw 0 0 Q 19 [(0, .ref (ad 0)), (1, .int f), (2, .int t), (3, .int (nI i))] [] := by
  intro n
  induction n with
  | zero =>
    intro i hi zw zH hM hF hU
    obtain rfl : i = np := by omega
    refine v_iload_n C dX6_kept_19 rfl rfl ?_
    refine v_aload_n C dX6_kept_20 rfl rfl ?_
    refine vm_get (v := .int (g 10)) C hM inX6_kept_X6 10 (by decide) kwX6_kept_94 rfl rfl dX6_kept_21 ?_
    refine v_icmp_ge (tgt := 78) C dX6_kept_24 (by decide) (fun c24 => ?_) (fun c24 => absurd (by rw [hI.2.2.1.1]; exact nI_le (Nat.le_refl _) (by have := hI.sam.2; omega)) c24)
    exact hK zw zH hM hF hU
  | succ n ih =>
    intro i hi zw zH hM hF hU
    refine v_iload_n C dX6_kept_19 rfl rfl ?_
    refine v_aload_n C dX6_kept_20 rfl rfl ?_
    refine vm_get (v := .int (g 10)) C hM inX6_kept_X6 10 (by decide) kwX6_kept_94 rfl rfl dX6_kept_21 ?_
    refine v_icmp_ge (tgt := 78) C dX6_kept_24 (by decide) (fun c24 => absurd c24 (by rw [hI.2.2.1.1]; exact nI_ge (by omega) (by have := hI.sam.2; omega))) (fun c24 => ?_)
    refine v_aload_n C dX6_kept_27 rfl rfl ?_
    refine vm_get (v := .ref (ad 12)) C hM inX6_kept_X6 12 (by decide) kwX6_kept_38 rfl rfl dX6_kept_28 ?_
    refine v_iload_n C dX6_kept_31 rfl rfl ?_
    refine vm_iald (f := ar 12) C hM 10 rfl (vp_in_nI (by have := hI.sam.2; omega) (by decide)) dX6_kept_32 ?_
    rw [nI_clamp (show i < 2 ^ 31 by have := hI.sam.2; omega)]
    refine v_iload_n C dX6_kept_33 rfl rfl ?_
    refine v_at (pc9 := 34) rfl ?_
    refine v_icmp_lt (tgt := 72) C dX6_kept_34 (by decide) (fun c34 => ?_) (fun c34 => ?_)
    · have hp : (inSp (ar 12) f t) i = false := inSp_lt c34
      refine v_iincN C dX6_kept_72 rfl (by decide) rfl ?_
      refine v_goto (tgt := 19) C dX6_kept_75 (by decide) ?_
      first
      | (have e9 := insN_t (h := fun j => shI ar (ar 4 (ar 11 j).toNatClampNeg) (ar 12 j).toNatClampNeg 6) hp
         exact ih (i + 1) (by omega) zw zH (by rw [e9]; exact hM) hF (by rw [e9]; exact hU))
      | (have e9 := insN_f (h := fun j => shI ar (ar 4 (ar 11 j).toNatClampNeg) (ar 12 j).toNatClampNeg 6) hp
         exact ih (i + 1) (by omega) zw zH (by rw [e9]; exact hM) hF (by rw [e9]; exact hU))
    · refine v_aload_n C dX6_kept_37 rfl rfl ?_
      refine vm_get (v := .ref (ad 12)) C hM inX6_kept_X6 12 (by decide) kwX6_kept_38 rfl rfl dX6_kept_38 ?_
      refine v_iload_n C dX6_kept_41 rfl rfl ?_
      refine vm_iald (f := ar 12) C hM 10 rfl (vp_in_nI (by have := hI.sam.2; omega) (by decide)) dX6_kept_42 ?_
      rw [nI_clamp (show i < 2 ^ 31 by have := hI.sam.2; omega)]
      refine v_iload_n C dX6_kept_43 rfl rfl ?_
      refine v_icmp_gt (tgt := 72) C dX6_kept_44 (by decide) (fun c44 => ?_) (fun c44 => ?_)
      · have hp : (inSp (ar 12) f t) i = false := inSp_gt c44
        refine v_iincN C dX6_kept_72 rfl (by decide) rfl ?_
        refine v_goto (tgt := 19) C dX6_kept_75 (by decide) ?_
        first
        | (have e9 := insN_t (h := fun j => shI ar (ar 4 (ar 11 j).toNatClampNeg) (ar 12 j).toNatClampNeg 6) hp
           exact ih (i + 1) (by omega) zw zH (by rw [e9]; exact hM) hF (by rw [e9]; exact hU))
        | (have e9 := insN_f (h := fun j => shI ar (ar 4 (ar 11 j).toNatClampNeg) (ar 12 j).toNatClampNeg 6) hp
           exact ih (i + 1) (by omega) zw zH (by rw [e9]; exact hM) hF (by rw [e9]; exact hU))
      · have hp : (inSp (ar 12) f t) i = true := inSp_in c34 c44
        obtain ⟨j0, hj0, ho⟩ := hI.of i (by omega)
        obtain ⟨t0, ht0, hat⟩ := hI.at i (by omega)
        have ht9 := hI.tick.2
        have hs9 := hI.ser.2
        refine v_aload_n C dX6_kept_47 rfl rfl ?_
        refine v_aload_n C dX6_kept_48 rfl rfl ?_
        refine v_aload_n C dX6_kept_49 rfl rfl ?_
        refine vm_get (v := .ref (ad 4)) C hM inX6_kept_X6 4 (by decide) kwX6_kept_17 rfl rfl dX6_kept_50 ?_
        refine v_aload_n C dX6_kept_53 rfl rfl ?_
        refine vm_get (v := .ref (ad 11)) C hM inX6_kept_X6 11 (by decide) kwX6_kept_35 rfl rfl dX6_kept_54 ?_
        refine v_iload_n C dX6_kept_57 rfl rfl ?_
        refine vm_iald (f := ar 11) C hM 9 rfl (vp_in_nI (by have := hI.sam.2; omega) (by decide)) dX6_kept_58 ?_
        rw [nI_clamp (show i < 2 ^ 31 by have := hI.sam.2; omega)]
        rw [ho]
        refine vm_iald (f := ar 4) C hM 3 rfl (vp_in_nI (by omega) (by decide)) dX6_kept_59 ?_
        refine v_at (pc9 := 60) rfl ?_
        rw [nI_clamp (show j0 < 2 ^ 31 by omega)]
        refine v_aload_n C dX6_kept_60 rfl rfl ?_
        refine vm_get (v := .ref (ad 12)) C hM inX6_kept_X6 12 (by decide) kwX6_kept_38 rfl rfl dX6_kept_61 ?_
        refine v_iload_n C dX6_kept_64 rfl rfl ?_
        refine vm_iald (f := ar 12) C hM 10 rfl (vp_in_nI (by have := hI.sam.2; omega) (by decide)) dX6_kept_65 ?_
        rw [nI_clamp (show i < 2 ^ 31 by have := hI.sam.2; omega)]
        rw [hat]
        refine v_callVi C (c_X6_shorted l E zw hM (hI.sc ((mSc.u _).tr (mSc.h zH))) _ (tt := t0) (by omega)) (cwV 2 C.1.2.2.2.2 gX6_kept_X6_shorted rfl rfl rfl (by decide +kernel) ⟨by decide, by decide⟩) 12 7 (hM 0 _ rfl) rfl rfl rfl (Nat.le_of_ble_eq_true rfl) dX6_kept_66 ⟨Nat.le_of_ble_eq_true rfl, Nat.le_of_ble_eq_true rfl⟩ (fun r w1 hp9 => ?_)
        obtain ⟨rfl, hr9⟩ := hp9
        rw [hr9, shI_c (ar := ar) (ar1 := va_up ar 16 zH) rfl rfl, show shI ar (ar 4 j0) t0 6 = (fun j => shI ar (ar 4 (ar 11 j).toNatClampNeg) (ar 12 j).toNatClampNeg 6) i from by simp only [ho, hat, nI_clamp (show j0 < 2 ^ 31 by omega), nI_clamp (show t0 < 2 ^ 31 by omega)]]
        clear hr9
        refine v_callVu C (c_X6_note l E zw hM (insN_sor _ _ i) hU pk_us (by have := insN_len (inSp (ar 12) f t) (fun j => shI ar (ar 4 (ar 11 j).toNatClampNeg) (ar 12 j).toNatClampNeg 6) i; have := hI.sam.2; omega) _) (cwV 1 C.1.2.2.2.2 gX6_kept_X6_note rfl rfl rfl (by decide +kernel) ⟨by decide, by decide⟩) 12 7 (hM 0 _ rfl) rfl rfl rfl (Nat.le_of_ble_eq_true rfl) dX6_kept_69 ⟨Nat.le_of_ble_eq_true rfl, Nat.le_of_ble_eq_true rfl⟩ (fun zw hp9 => ?_)
        obtain ⟨zH, hM, hF1, hU⟩ := hp9
        have hF := hF.tr hF1
        rw [fa_upd_twice, bx_uu] at hM
        refine v_iincN C dX6_kept_72 rfl (by decide) rfl ?_
        refine v_goto (tgt := 19) C dX6_kept_75 (by decide) ?_
        first
        | (have e9 := insN_t (h := fun j => shI ar (ar 4 (ar 11 j).toNatClampNeg) (ar 12 j).toNatClampNeg 6) hp
           exact ih (i + 1) (by omega) zw zH (by rw [e9]; exact hM) hF (by rw [e9]; exact hU))
        | (have e9 := insN_f (h := fun j => shI ar (ar 4 (ar 11 j).toNatClampNeg) (ar 12 j).toNatClampNeg 6) hp
           exact ih (i + 1) (by omega) zw zH (by rw [e9]; exact hM) hF (by rw [e9]; exact hU))
theorem kwX6_kept_109 : Cond.fieldLink RX6 109 "SeriesMarksModel" "unlikes" "I" ∈ wsX6_kept := by decide +kernel
set_option maxHeartbeats 4000000 in
set_option maxRecDepth 100000 in
theorem c_X6_kept (l : Launch) (E : gE) (zw : va_W) {ad : Nat → Nat} {g : Nat → Int32} {ar : Nat → Nat → Int32} (hM : mAt zw (mcl E ad g ar)) {tk ns np na : Nat} (hI : MI g ar tk ns np na) (f t : Int32) : CtI l yX6_kept wsX6_kept ({ frames := 2, cells := 0, slots := 0, locals := 47 }) E [.ref (ad 0), .int f, .int t] zw (fun r w1 => ∃ (g1 : Nat → Int32) (ar1 : Nat → Nat → Int32), mAt w1 (mcl E ad g1 ar1) ∧ mFr zw w1 ∧ mSc g ar g1 ar1 ∧ r = if 0 ≤ t.toInt ∧ t.toInt ≤ (g 0).toInt ∧ 0 ≤ f.toInt ∧ f.toInt ≤ t.toInt then nI (insN (inSp (ar 12) f t) (fun j => shI ar (ar 4 (ar 11 j).toNatClampNeg) (ar 12 j).toNatClampNeg 6) np).length else (-2)) 0 0 := by
  refine Ct.of (cc := cX6_kept) (nL := 4) (ret := (some .int)) (by decide) rfl (Nat.le_of_ble_eq_true rfl) ?_
  intro p e s m args below meth c C hr hnm
  refine v_eqlv (lv9 := [(0, .ref (ad 0)), (1, .int f), (2, .int t)]) rfl ?_
  obtain ⟨w0, hw0⟩ : ∃ w0 : va_W, w0 = zw := ⟨_, rfl⟩
  have hF : mFr w0 zw := by rw [hw0]; exact mFr.rf zw
  refine v_aload_n C dX6_kept_0 rfl rfl ?_
  refine v_iload_n C dX6_kept_1 rfl rfl ?_
  refine v_iload_n C dX6_kept_2 rfl rfl ?_
  refine v_callVi C (c_X6_isSpan l E zw hM _ _) (cwV 2 C.1.2.2.2.2 gX6_kept_X6_isSpan rfl rfl rfl (by decide +kernel) ⟨by decide, by decide⟩) 12 7 (hM 0 _ rfl) rfl rfl rfl (Nat.le_of_ble_eq_true rfl) dX6_kept_3 ⟨Nat.le_of_ble_eq_true rfl, Nat.le_of_ble_eq_true rfl⟩ (fun r w1 hp => ?_)
  obtain ⟨rfl, rfl⟩ := hp
  refine v_if_ne (tgt := 12) C dX6_kept_6 (by decide) (fun c6 => ?_) (fun c6 => ?_)
  · have c6 := b01_n c6
    refine v_aload_n C dX6_kept_12 rfl rfl ?_
    refine v_iconst (v := 0) C dX6_kept_13 (by decide) ?_
    refine vm_puti C hM hF inX6_kept_X6 15 (by decide) kwX6_kept_109 rfl rfl (by decide +kernel) rfl dX6_kept_14 (fun zw hM hF => ?_)
    refine v_iconst (v := 0) C dX6_kept_17 (by decide) ?_
    refine v_tov nI_0.symm ?_
    refine v_istore_n C dX6_kept_18 rfl (by decide) rfl ?_
    refine lp_X6_kept (w0 := w0) C hI ?_ np 0 (Nat.zero_add _) zw (ar 16) (by rw [bx_k]; exact hM) hF (UL.nil _)
    intro zw zH hM hF hU
    refine v_aload_n C dX6_kept_78 rfl rfl ?_
    refine vm_get (v := .int (upd g 15 (nI (insN (inSp (ar 12) f t) (fun j => shI ar (ar 4 (ar 11 j).toNatClampNeg) (ar 12 j).toNatClampNeg 6) np).length) 15)) C hM inX6_kept_X6 15 (by decide) kwX6_kept_109 rfl rfl dX6_kept_79 ?_
    rw [pk_us]
    exact v_iret C hr dX6_kept_82 (Nat.le_refl _) (Nat.le_refl _) ⟨_, rfl, (by first | exact ⟨_, _, hM, hw0 ▸ hF, (mSc.u _).tr (mSc.h zH), by rw [if_pos c6] <;> rfl⟩ | exact ⟨g, ar, hM, hw0 ▸ hF, mSc.rf g ar, by rw [if_neg c6]⟩)⟩
  · have c6 := b01_0 c6
    refine v_bipush (v := (-2)) C dX6_kept_9 (by decide) ?_
    exact v_iret C hr dX6_kept_11 (Nat.le_refl _) (Nat.le_refl _) ⟨_, rfl, (by first | exact ⟨_, _, hM, hw0 ▸ hF, (mSc.u _).tr (mSc.h zH), by rw [if_pos c6] <;> rfl⟩ | exact ⟨g, ar, hM, hw0 ▸ hF, mSc.rf g ar, by rw [if_neg c6]⟩)⟩
/-- the least of some numbers, and its first place -/
def wF (u : Nat → Int32) : Nat → Int32
  | 0 => 9999
  | m + 1 => if u m < wF u m then u m else wF u m
def wB (u : Nat → Int32) : Nat → Int32
  | 0 => 0
  | m + 1 => if u m < wF u m then nI m else wB u m
theorem wB_s (u : Nat → Int32) (m : Nat) : wB u (m + 1) = if u m < wF u m then nI m else wB u m := rfl
theorem wF_s (u : Nat → Int32) (m : Nat) : wF u (m + 1) = if u m < wF u m then u m else wF u m := rfl
set_option maxHeartbeats 4000000 in
set_option maxRecDepth 100000 in
theorem lp_X6_worst {p : Program} {l : Launch} {e : Env} {s : State} {m : MethodId} {args : Array Value} {below : List Frame} {meth : Method} {c : Code} {Q : State → Prop} {E : gE} {w0 : va_W} (C : gC p s m args meth c E cX6_worst 8 wsX6_worst yX6_worst.cls) {ad : Nat → Nat} {g : Nat → Int32} {ar : Nat → Nat → Int32} {tk ns np na : Nat} (hI : MI g ar tk ns np na) {f t n3 : Int32} (hK : ∀ (zw : va_W) (g1 : Nat → Int32) (ar1 : Nat → Nat → Int32), mAt zw (mcl E ad g1 ar1) → mFr w0 zw → mSc g ar g1 ar1 → (∀ j, j < ns → ar1 14 j = b01 ((fun j => senB (inSp (ar 12) f t) (ar 11) j np) j = true)) → V p l e ({ frames := 2, cells := 0, slots := 0, locals := 47 }) s m args below meth c E 8 zw 0 0 Q 68 [(0, .ref (ad 0)), (1, .int f), (2, .int t), (3, .int n3), (4, .int (wB (fun m => nI (insN (fun j => senB (inSp (ar 12) f t) (ar 11) j np) (fun j => woI (ar 4 j) (1 <<< (nI m &&& 31)) 6) ns).length) 6)), (5, .int (wF (fun m => nI (insN (fun j => senB (inSp (ar 12) f t) (ar 11) j np) (fun j => woI (ar 4 j) (1 <<< (nI m &&& 31)) 6) ns).length) 6)), (6, .int (nI 6))] []) : ∀ n i : Nat, i + n = 6 → ∀ (zw : va_W) (g1 : Nat → Int32) (ar1 : Nat → Nat → Int32), mAt zw (mcl E ad g1 ar1) → mFr w0 zw → mSc g ar g1 ar1 → (∀ j, j < ns → ar1 14 j = b01 ((fun j => senB (inSp (ar 12) f t) (ar 11) j np) j = true)) → V p l e ({ frames := 2, cells := 0, slots := 0, locals := 47 }) s m args below meth c E 8 zw 0 0 Q 30 [(0, .ref (ad 0)), (1, .int f), (2, .int t), (3, .int n3), (4, .int (wB (fun m => nI (insN (fun j => senB (inSp (ar 12) f t) (ar 11) j np) (fun j => woI (ar 4 j) (1 <<< (nI m &&& 31)) 6) ns).length) i)), (5, .int (wF (fun m => nI (insN (fun j => senB (inSp (ar 12) f t) (ar 11) j np) (fun j => woI (ar 4 j) (1 <<< (nI m &&& 31)) 6) ns).length) i)), (6, .int (nI i))] [] := by
  intro n
  induction n with
  | zero =>
    intro i hi zw g1 ar1 hM hF hs hq
    obtain rfl : i = 6 := by omega
    refine v_iload C dX6_worst_30 rfl ?_
    refine v_bipush (v := 6) C dX6_worst_32 (by decide) ?_
    refine v_icmp_ge (tgt := 68) C dX6_worst_34 (by decide) (fun c34 => ?_) (fun c34 => absurd (by rw [fa_le, ti_6, nI_toInt (by omega)]; omega) c34)
    exact hK zw g1 ar1 hM hF hs hq
  | succ n ih =>
    intro i hi zw g1 ar1 hM hF hs hq
    refine v_iload C dX6_worst_30 rfl ?_
    refine v_bipush (v := 6) C dX6_worst_32 (by decide) ?_
    refine v_icmp_ge (tgt := 68) C dX6_worst_34 (by decide) (fun c34 => absurd c34 (by rw [fa_le, ti_6, nI_toInt (by omega)]; omega)) (fun c34 => ?_)
    refine v_aload_n C dX6_worst_37 rfl rfl ?_
    refine v_iconst (v := 1) C dX6_worst_38 (by decide) ?_
    refine v_iload C dX6_worst_39 rfl ?_
    refine v_ishl C dX6_worst_41 ?_
    refine v_callVi C (c_X6_unlikeWithout l E zw hM (hI.sc hs) (q := (fun j => senB (inSp (ar 12) f t) (ar 11) j np)) hq _) (cwV 1 C.1.2.2.2.2 gX6_worst_X6_unlikeWithout rfl rfl rfl (by decide +kernel) ⟨by decide, by decide⟩) 12 7 (hM 0 _ rfl) rfl rfl rfl (Nat.le_of_ble_eq_true rfl) dX6_worst_42 ⟨Nat.le_of_ble_eq_true rfl, Nat.le_of_ble_eq_true rfl⟩ (fun r zw hp9 => ?_)
    obtain ⟨zH, hM, hF1, hU, hr9⟩ := hp9
    rw [hr9, hs.2 4 (by decide) (by decide), show nI (insN (fun j => senB (inSp (ar 12) f t) (ar 11) j np) (fun j => woI (ar 4 j) (1 <<< (nI i &&& 31)) 6) ns).length = (fun m => nI (insN (fun j => senB (inSp (ar 12) f t) (ar 11) j np) (fun j => woI (ar 4 j) (1 <<< (nI m &&& 31)) 6) ns).length) i from rfl]
    clear hr9 hU
    have hF := hF.tr hF1
    obtain ⟨U9, hM⟩ : ∃ U9, mAt zw (mcl E ad (upd g1 15 U9) (va_up ar1 16 zH)) := ⟨_, hM⟩
    have hs := hs.tr ((mSc.u U9).tr (mSc.h zH))
    refine v_istore C dX6_worst_45 (by decide) rfl ?_
    refine v_at (pc9 := 47) rfl ?_
    refine v_iload C dX6_worst_47 rfl ?_
    refine v_iload C dX6_worst_49 rfl ?_
    refine v_icmp_ge (tgt := 62) C dX6_worst_51 (by decide) (fun c51 => ?_) (fun c51 => ?_)
    · have c51 : ¬ (fun m => nI (insN (fun j => senB (inSp (ar 12) f t) (ar 11) j np) (fun j => woI (ar 4 j) (1 <<< (nI m &&& 31)) 6) ns).length) i < wF (fun m => nI (insN (fun j => senB (inSp (ar 12) f t) (ar 11) j np) (fun j => woI (ar 4 j) (1 <<< (nI m &&& 31)) 6) ns).length) i := by rw [fa_lt]; rw [fa_le] at c51; omega
      have e8 := wB_s (fun m => nI (insN (fun j => senB (inSp (ar 12) f t) (ar 11) j np) (fun j => woI (ar 4 j) (1 <<< (nI m &&& 31)) 6) ns).length) i
      have e7 := wF_s (fun m => nI (insN (fun j => senB (inSp (ar 12) f t) (ar 11) j np) (fun j => woI (ar 4 j) (1 <<< (nI m &&& 31)) 6) ns).length) i
      first | rw [if_pos c51] at e8 e7 | rw [if_neg c51] at e8 e7
      refine v_pick (lv9 := [(0, .ref (ad 0)), (1, .int f), (2, .int t), (3, .int n3), (4, .int (wB (fun m => nI (insN (fun j => senB (inSp (ar 12) f t) (ar 11) j np) (fun j => woI (ar 4 j) (1 <<< (nI m &&& 31)) 6) ns).length) (i + 1))), (5, .int (wF (fun m => nI (insN (fun j => senB (inSp (ar 12) f t) (ar 11) j np) (fun j => woI (ar 4 j) (1 <<< (nI m &&& 31)) 6) ns).length) (i + 1))), (6, .int (nI i))]) ⟨rfl, rfl, rfl, rfl, by rw [e8]; rfl, by rw [e7]; rfl, rfl, trivial⟩ ?_
      refine v_iincN C dX6_worst_62 rfl (by decide) rfl ?_
      refine v_goto (tgt := 30) C dX6_worst_65 (by decide) ?_
      exact ih (i + 1) (by omega) zw _ _ hM hF hs hq
    · have c51 : (fun m => nI (insN (fun j => senB (inSp (ar 12) f t) (ar 11) j np) (fun j => woI (ar 4 j) (1 <<< (nI m &&& 31)) 6) ns).length) i < wF (fun m => nI (insN (fun j => senB (inSp (ar 12) f t) (ar 11) j np) (fun j => woI (ar 4 j) (1 <<< (nI m &&& 31)) 6) ns).length) i := by rw [fa_lt]; rw [fa_le] at c51; omega
      refine v_iload C dX6_worst_54 rfl ?_
      refine v_istore C dX6_worst_56 (by decide) rfl ?_
      refine v_iload C dX6_worst_58 rfl ?_
      refine v_istore C dX6_worst_60 (by decide) rfl ?_
      have e8 := wB_s (fun m => nI (insN (fun j => senB (inSp (ar 12) f t) (ar 11) j np) (fun j => woI (ar 4 j) (1 <<< (nI m &&& 31)) 6) ns).length) i
      have e7 := wF_s (fun m => nI (insN (fun j => senB (inSp (ar 12) f t) (ar 11) j np) (fun j => woI (ar 4 j) (1 <<< (nI m &&& 31)) 6) ns).length) i
      first | rw [if_pos c51] at e8 e7 | rw [if_neg c51] at e8 e7
      refine v_pick (lv9 := [(0, .ref (ad 0)), (1, .int f), (2, .int t), (3, .int n3), (4, .int (wB (fun m => nI (insN (fun j => senB (inSp (ar 12) f t) (ar 11) j np) (fun j => woI (ar 4 j) (1 <<< (nI m &&& 31)) 6) ns).length) (i + 1))), (5, .int (wF (fun m => nI (insN (fun j => senB (inSp (ar 12) f t) (ar 11) j np) (fun j => woI (ar 4 j) (1 <<< (nI m &&& 31)) 6) ns).length) (i + 1))), (6, .int (nI i))]) ⟨rfl, rfl, rfl, rfl, by rw [e8]; rfl, by rw [e7]; rfl, rfl, trivial⟩ ?_
      refine v_iincN C dX6_worst_62 rfl (by decide) rfl ?_
      refine v_goto (tgt := 30) C dX6_worst_65 (by decide) ?_
      exact ih (i + 1) (by omega) zw _ _ hM hF hs hq
set_option maxHeartbeats 4000000 in
set_option maxRecDepth 100000 in
theorem c_X6_worst (l : Launch) (E : gE) (zw : va_W) {ad : Nat → Nat} {g : Nat → Int32} {ar : Nat → Nat → Int32} (hM : mAt zw (mcl E ad g ar)) {tk ns np na : Nat} (hI : MI g ar tk ns np na) (f t : Int32) : CtI l yX6_worst wsX6_worst ({ frames := 2, cells := 0, slots := 0, locals := 47 }) E [.ref (ad 0), .int f, .int t] zw (fun r w1 => ∃ (g1 : Nat → Int32) (ar1 : Nat → Nat → Int32), mAt w1 (mcl E ad g1 ar1) ∧ mFr zw w1 ∧ mSc g ar g1 ar1 ∧ r = if 0 ≤ t.toInt ∧ t.toInt ≤ (g 0).toInt ∧ 0 ≤ f.toInt ∧ f.toInt ≤ t.toInt then wB (fun m => nI (insN (fun j => senB (inSp (ar 12) f t) (ar 11) j np) (fun j => woI (ar 4 j) (1 <<< (nI m &&& 31)) 6) ns).length) 6 else (-2)) 0 0 := by
  refine Ct.of (cc := cX6_worst) (nL := 8) (ret := (some .int)) (by decide) rfl (Nat.le_of_ble_eq_true rfl) ?_
  intro p e s m args below meth c C hr hnm
  refine v_eqlv (lv9 := [(0, .ref (ad 0)), (1, .int f), (2, .int t)]) rfl ?_
  obtain ⟨w0, hw0⟩ : ∃ w0 : va_W, w0 = zw := ⟨_, rfl⟩
  have hF : mFr w0 zw := by rw [hw0]; exact mFr.rf zw
  refine v_aload_n C dX6_worst_0 rfl rfl ?_
  refine v_iload_n C dX6_worst_1 rfl rfl ?_
  refine v_iload_n C dX6_worst_2 rfl rfl ?_
  refine v_callVi C (c_X6_isSpan l E zw hM _ _) (cwV 2 C.1.2.2.2.2 gX6_worst_X6_isSpan rfl rfl rfl (by decide +kernel) ⟨by decide, by decide⟩) 12 7 (hM 0 _ rfl) rfl rfl rfl (Nat.le_of_ble_eq_true rfl) dX6_worst_3 ⟨Nat.le_of_ble_eq_true rfl, Nat.le_of_ble_eq_true rfl⟩ (fun r w1 hp => ?_)
  obtain ⟨rfl, rfl⟩ := hp
  refine v_if_ne (tgt := 12) C dX6_worst_6 (by decide) (fun c6 => ?_) (fun c6 => ?_)
  · have c6 := b01_n c6
    refine v_aload_n C dX6_worst_12 rfl rfl ?_
    refine v_iload_n C dX6_worst_13 rfl rfl ?_
    refine v_iload_n C dX6_worst_14 rfl rfl ?_
    refine v_callVi C (c_X6_look l E zw hM hI _ _) (cwV 2 C.1.2.2.2.2 gX6_worst_X6_look rfl rfl rfl (by decide +kernel) ⟨by decide, by decide⟩) 12 7 (hM 0 _ rfl) rfl rfl rfl (Nat.le_of_ble_eq_true rfl) dX6_worst_15 ⟨Nat.le_of_ble_eq_true rfl, Nat.le_of_ble_eq_true rfl⟩ (fun r zw hp => ?_)
    obtain ⟨zF, hM, hF1, hz, rfl⟩ := hp
    have hF := hF.tr hF1
    refine v_istore_n C dX6_worst_18 rfl (by decide) rfl ?_
    refine v_iconst (v := 0) C dX6_worst_19 (by decide) ?_
    refine v_istore C dX6_worst_20 (by decide) rfl ?_
    refine v_sipush (v := 9999) C dX6_worst_22 (by decide) ?_
    refine v_istore C dX6_worst_25 (by decide) rfl ?_
    refine v_at (pc9 := 27) rfl ?_
    refine v_iconst (v := 0) C dX6_worst_27 (by decide) ?_
    refine v_tov nI_0.symm ?_
    refine v_istore C dX6_worst_28 (by decide) rfl ?_
    refine lp_X6_worst (w0 := w0) C hI ?_ 6 0 rfl zw g (va_up ar 14 zF) hM hF (mSc.f zF) hz
    intro zw g1 ar1 hM hF hs hq
    refine v_iload C dX6_worst_68 rfl ?_
    exact v_iret C hr dX6_worst_70 (Nat.le_refl _) (Nat.le_refl _) ⟨_, rfl, (by first | exact ⟨_, _, hM, hw0 ▸ hF, hs, by rw [if_pos c6]⟩ | exact ⟨g, ar, hM, hw0 ▸ hF, mSc.rf g ar, by rw [if_neg c6]⟩)⟩
  · have c6 := b01_0 c6
    refine v_bipush (v := (-2)) C dX6_worst_9 (by decide) ?_
    exact v_iret C hr dX6_worst_11 (Nat.le_refl _) (Nat.le_refl _) ⟨_, rfl, (by first | exact ⟨_, _, hM, hw0 ▸ hF, hs, by rw [if_pos c6]⟩ | exact ⟨g, ar, hM, hw0 ▸ hF, mSc.rf g ar, by rw [if_neg c6]⟩)⟩
/-- the best plan so far: the plan, its loss, what it leaves -/
def plS (u lo : Nat → Int32) (most : Int32) : Nat → Int32 × Int32 × Int32
  | 0 => (-9, 0, 0)
  | p + 1 => if u p ≤ most ∧ ((plS u lo most p).1 = (-9) ∨ lo p < (plS u lo most p).2.1 ∨ (lo p = (plS u lo most p).2.1 ∧ (plS u lo most p).2.2 < u p)) then (nI p, lo p, u p) else plS u lo most p
theorem plS_s (u lo : Nat → Int32) (most : Int32) (p : Nat) : plS u lo most (p + 1) = if u p ≤ most ∧ ((plS u lo most p).1 = (-9) ∨ lo p < (plS u lo most p).2.1 ∨ (lo p = (plS u lo most p).2.1 ∧ (plS u lo most p).2.2 < u p)) then (nI p, lo p, u p) else plS u lo most p := rfl
set_option maxHeartbeats 4000000 in
set_option maxRecDepth 100000 in
theorem lp_X6_plan {p : Program} {l : Launch} {e : Env} {s : State} {m : MethodId} {args : Array Value} {below : List Frame} {meth : Method} {c : Code} {Q : State → Prop} {E : gE} {w0 : va_W} (C : gC p s m args meth c E cX6_plan 11 wsX6_plan yX6_plan.cls) {ad : Nat → Nat} {g : Nat → Int32} {ar : Nat → Nat → Int32} {tk ns np na : Nat} (hI : MI g ar tk ns np na) {most f t n4 : Int32} (hK : ∀ (zw : va_W) (g1 : Nat → Int32) (ar1 : Nat → Nat → Int32), mAt zw (mcl E ad g1 ar1) → mFr w0 zw → mSc g ar g1 ar1 → (∀ j, j < ns → ar1 14 j = b01 ((fun j => senB (inSp (ar 12) f t) (ar 11) j np) j = true)) → V p l e ({ frames := 2, cells := 0, slots := 0, locals := 47 }) s m args below meth c E 11 zw 0 0 Q 120 [(0, .ref (ad 0)), (1, .int most), (2, .int f), (3, .int t), (4, .int n4), (5, .int (plS (fun m => nI (insN (fun j => senB (inSp (ar 12) f t) (ar 11) j np) (fun j => woI (ar 4 j) (nI m) 6) ns).length) (fun m => lsB (lsA (ar 22) (nI m) 6) (ar 18) (ar 21) (nI m) na) most 64).1), (6, .int (plS (fun m => nI (insN (fun j => senB (inSp (ar 12) f t) (ar 11) j np) (fun j => woI (ar 4 j) (nI m) 6) ns).length) (fun m => lsB (lsA (ar 22) (nI m) 6) (ar 18) (ar 21) (nI m) na) most 64).2.1), (7, .int (plS (fun m => nI (insN (fun j => senB (inSp (ar 12) f t) (ar 11) j np) (fun j => woI (ar 4 j) (nI m) 6) ns).length) (fun m => lsB (lsA (ar 22) (nI m) 6) (ar 18) (ar 21) (nI m) na) most 64).2.2), (8, .int (nI 64))] []) : ∀ n i : Nat, i + n = 64 → ∀ (zw : va_W) (g1 : Nat → Int32) (ar1 : Nat → Nat → Int32), mAt zw (mcl E ad g1 ar1) → mFr w0 zw → mSc g ar g1 ar1 → (∀ j, j < ns → ar1 14 j = b01 ((fun j => senB (inSp (ar 12) f t) (ar 11) j np) j = true)) → V p l e ({ frames := 2, cells := 0, slots := 0, locals := 47 }) s m args below meth c E 11 zw 0 0 Q 45 [(0, .ref (ad 0)), (1, .int most), (2, .int f), (3, .int t), (4, .int n4), (5, .int (plS (fun m => nI (insN (fun j => senB (inSp (ar 12) f t) (ar 11) j np) (fun j => woI (ar 4 j) (nI m) 6) ns).length) (fun m => lsB (lsA (ar 22) (nI m) 6) (ar 18) (ar 21) (nI m) na) most i).1), (6, .int (plS (fun m => nI (insN (fun j => senB (inSp (ar 12) f t) (ar 11) j np) (fun j => woI (ar 4 j) (nI m) 6) ns).length) (fun m => lsB (lsA (ar 22) (nI m) 6) (ar 18) (ar 21) (nI m) na) most i).2.1), (7, .int (plS (fun m => nI (insN (fun j => senB (inSp (ar 12) f t) (ar 11) j np) (fun j => woI (ar 4 j) (nI m) 6) ns).length) (fun m => lsB (lsA (ar 22) (nI m) 6) (ar 18) (ar 21) (nI m) na) most i).2.2), (8, .int (nI i))] [] := by
  intro n
  induction n with
  | zero =>
    intro i hi zw g1 ar1 hM hF hs hq
    obtain rfl : i = 64 := by omega
    refine v_iload C dX6_plan_45 rfl ?_
    refine v_bipush (v := 64) C dX6_plan_47 (by decide) ?_
    refine v_icmp_ge (tgt := 120) C dX6_plan_49 (by decide) (fun c49 => ?_) (fun c49 => absurd (by rw [fa_le, ti_64, nI_toInt (by omega)]; omega) c49)
    exact hK zw g1 ar1 hM hF hs hq
  | succ n ih =>
    intro i hi zw g1 ar1 hM hF hs hq
    refine v_iload C dX6_plan_45 rfl ?_
    refine v_bipush (v := 64) C dX6_plan_47 (by decide) ?_
    refine v_icmp_ge (tgt := 120) C dX6_plan_49 (by decide) (fun c49 => absurd c49 (by rw [fa_le, ti_64, nI_toInt (by omega)]; omega)) (fun c49 => ?_)
    refine v_aload_n C dX6_plan_52 rfl rfl ?_
    refine v_iload C dX6_plan_53 rfl ?_
    refine v_callVi C (c_X6_unlikeWithout l E zw hM (hI.sc hs) (q := (fun j => senB (inSp (ar 12) f t) (ar 11) j np)) hq _) (cwV 1 C.1.2.2.2.2 gX6_plan_X6_unlikeWithout rfl rfl rfl (by decide +kernel) ⟨by decide, by decide⟩) 12 7 (hM 0 _ rfl) rfl rfl rfl (Nat.le_of_ble_eq_true rfl) dX6_plan_55 ⟨Nat.le_of_ble_eq_true rfl, Nat.le_of_ble_eq_true rfl⟩ (fun r zw hp9 => ?_)
    obtain ⟨zH, hM, hF1, hU, hr9⟩ := hp9
    rw [hr9, hs.2 4 (by decide) (by decide), show nI (insN (fun j => senB (inSp (ar 12) f t) (ar 11) j np) (fun j => woI (ar 4 j) (nI i) 6) ns).length = (fun m => nI (insN (fun j => senB (inSp (ar 12) f t) (ar 11) j np) (fun j => woI (ar 4 j) (nI m) 6) ns).length) i from rfl]
    clear hr9 hU
    have hF := hF.tr hF1
    obtain ⟨U9, hM⟩ : ∃ U9, mAt zw (mcl E ad (upd g1 15 U9) (va_up ar1 16 zH)) := ⟨_, hM⟩
    have hs := hs.tr ((mSc.u U9).tr (mSc.h zH))
    refine v_istore C dX6_plan_58 (by decide) rfl ?_
    refine v_aload_n C dX6_plan_60 rfl rfl ?_
    refine v_iload C dX6_plan_61 rfl ?_
    refine v_at (pc9 := 63) rfl ?_
    refine v_callVi C (c_X6_lossOf l E zw hM (hI.sc hs) _) (cwV 1 C.1.2.2.2.2 gX6_plan_X6_lossOf rfl rfl rfl (by decide +kernel) ⟨by decide, by decide⟩) 12 7 (hM 0 _ rfl) rfl rfl rfl (Nat.le_of_ble_eq_true rfl) dX6_plan_63 ⟨Nat.le_of_ble_eq_true rfl, Nat.le_of_ble_eq_true rfl⟩ (fun r w1 hp9 => ?_)
    obtain ⟨rfl, hr9⟩ := hp9
    rw [hr9, hs.2 22 (by decide) (by decide), hs.2 18 (by decide) (by decide), hs.2 21 (by decide) (by decide), show lsB (lsA (ar 22) (nI i) 6) (ar 18) (ar 21) (nI i) na = (fun m => lsB (lsA (ar 22) (nI m) 6) (ar 18) (ar 21) (nI m) na) i from rfl]
    clear hr9
    refine v_istore C dX6_plan_66 (by decide) rfl ?_
    refine v_iload C dX6_plan_68 rfl ?_
    refine v_iload_n C dX6_plan_70 rfl rfl ?_
    refine v_icmp_gt (tgt := 114) C dX6_plan_71 (by decide) (fun c71 => ?_) (fun c71 => ?_)
    · have hc : ¬ ((fun m => nI (insN (fun j => senB (inSp (ar 12) f t) (ar 11) j np) (fun j => woI (ar 4 j) (nI m) 6) ns).length) i ≤ most ∧ ((plS (fun m => nI (insN (fun j => senB (inSp (ar 12) f t) (ar 11) j np) (fun j => woI (ar 4 j) (nI m) 6) ns).length) (fun m => lsB (lsA (ar 22) (nI m) 6) (ar 18) (ar 21) (nI m) na) most i).1 = (-9) ∨ (fun m => lsB (lsA (ar 22) (nI m) 6) (ar 18) (ar 21) (nI m) na) i < (plS (fun m => nI (insN (fun j => senB (inSp (ar 12) f t) (ar 11) j np) (fun j => woI (ar 4 j) (nI m) 6) ns).length) (fun m => lsB (lsA (ar 22) (nI m) 6) (ar 18) (ar 21) (nI m) na) most i).2.1 ∨ ((fun m => lsB (lsA (ar 22) (nI m) 6) (ar 18) (ar 21) (nI m) na) i = (plS (fun m => nI (insN (fun j => senB (inSp (ar 12) f t) (ar 11) j np) (fun j => woI (ar 4 j) (nI m) 6) ns).length) (fun m => lsB (lsA (ar 22) (nI m) 6) (ar 18) (ar 21) (nI m) na) most i).2.1 ∧ (plS (fun m => nI (insN (fun j => senB (inSp (ar 12) f t) (ar 11) j np) (fun j => woI (ar 4 j) (nI m) 6) ns).length) (fun m => lsB (lsA (ar 22) (nI m) 6) (ar 18) (ar 21) (nI m) na) most i).2.2 < (fun m => nI (insN (fun j => senB (inSp (ar 12) f t) (ar 11) j np) (fun j => woI (ar 4 j) (nI m) 6) ns).length) i))) := fun h => absurd h.1 (by rw [fa_le]; rw [fa_lt] at c71; omega)
      have e9 := plS_s (fun m => nI (insN (fun j => senB (inSp (ar 12) f t) (ar 11) j np) (fun j => woI (ar 4 j) (nI m) 6) ns).length) (fun m => lsB (lsA (ar 22) (nI m) 6) (ar 18) (ar 21) (nI m) na) most i
      first | rw [if_pos hc] at e9 | rw [if_neg hc] at e9
      refine v_pick (lv9 := [(0, .ref (ad 0)), (1, .int most), (2, .int f), (3, .int t), (4, .int n4), (5, .int (plS (fun m => nI (insN (fun j => senB (inSp (ar 12) f t) (ar 11) j np) (fun j => woI (ar 4 j) (nI m) 6) ns).length) (fun m => lsB (lsA (ar 22) (nI m) 6) (ar 18) (ar 21) (nI m) na) most (i + 1)).1), (6, .int (plS (fun m => nI (insN (fun j => senB (inSp (ar 12) f t) (ar 11) j np) (fun j => woI (ar 4 j) (nI m) 6) ns).length) (fun m => lsB (lsA (ar 22) (nI m) 6) (ar 18) (ar 21) (nI m) na) most (i + 1)).2.1), (7, .int (plS (fun m => nI (insN (fun j => senB (inSp (ar 12) f t) (ar 11) j np) (fun j => woI (ar 4 j) (nI m) 6) ns).length) (fun m => lsB (lsA (ar 22) (nI m) 6) (ar 18) (ar 21) (nI m) na) most (i + 1)).2.2), (8, .int (nI i))]) ⟨rfl, rfl, rfl, rfl, rfl, by rw [e9]; rfl, by rw [e9]; rfl, by rw [e9]; rfl, rfl, trivial⟩ ?_
      refine v_iincN C dX6_plan_114 rfl (by decide) rfl ?_
      refine v_goto (tgt := 45) C dX6_plan_117 (by decide) ?_
      exact ih (i + 1) (by omega) zw _ _ hM hF hs hq
    · have h71 : (fun m => nI (insN (fun j => senB (inSp (ar 12) f t) (ar 11) j np) (fun j => woI (ar 4 j) (nI m) 6) ns).length) i ≤ most := by rw [fa_le]; rw [fa_lt] at c71; omega
      refine v_iload C dX6_plan_74 rfl ?_
      refine v_bipush (v := (-9)) C dX6_plan_76 (by decide) ?_
      refine v_icmp_eq (tgt := 102) C dX6_plan_78 (by decide) (fun c78 => ?_) (fun c78 => ?_)
      · have hc : ((fun m => nI (insN (fun j => senB (inSp (ar 12) f t) (ar 11) j np) (fun j => woI (ar 4 j) (nI m) 6) ns).length) i ≤ most ∧ ((plS (fun m => nI (insN (fun j => senB (inSp (ar 12) f t) (ar 11) j np) (fun j => woI (ar 4 j) (nI m) 6) ns).length) (fun m => lsB (lsA (ar 22) (nI m) 6) (ar 18) (ar 21) (nI m) na) most i).1 = (-9) ∨ (fun m => lsB (lsA (ar 22) (nI m) 6) (ar 18) (ar 21) (nI m) na) i < (plS (fun m => nI (insN (fun j => senB (inSp (ar 12) f t) (ar 11) j np) (fun j => woI (ar 4 j) (nI m) 6) ns).length) (fun m => lsB (lsA (ar 22) (nI m) 6) (ar 18) (ar 21) (nI m) na) most i).2.1 ∨ ((fun m => lsB (lsA (ar 22) (nI m) 6) (ar 18) (ar 21) (nI m) na) i = (plS (fun m => nI (insN (fun j => senB (inSp (ar 12) f t) (ar 11) j np) (fun j => woI (ar 4 j) (nI m) 6) ns).length) (fun m => lsB (lsA (ar 22) (nI m) 6) (ar 18) (ar 21) (nI m) na) most i).2.1 ∧ (plS (fun m => nI (insN (fun j => senB (inSp (ar 12) f t) (ar 11) j np) (fun j => woI (ar 4 j) (nI m) 6) ns).length) (fun m => lsB (lsA (ar 22) (nI m) 6) (ar 18) (ar 21) (nI m) na) most i).2.2 < (fun m => nI (insN (fun j => senB (inSp (ar 12) f t) (ar 11) j np) (fun j => woI (ar 4 j) (nI m) 6) ns).length) i))) := ⟨h71, Or.inl c78⟩
        refine v_iload C dX6_plan_102 rfl ?_
        refine v_istore C dX6_plan_104 (by decide) rfl ?_
        refine v_iload C dX6_plan_106 rfl ?_
        refine v_istore C dX6_plan_108 (by decide) rfl ?_
        refine v_iload C dX6_plan_110 rfl ?_
        refine v_istore C dX6_plan_112 (by decide) rfl ?_
        have e9 := plS_s (fun m => nI (insN (fun j => senB (inSp (ar 12) f t) (ar 11) j np) (fun j => woI (ar 4 j) (nI m) 6) ns).length) (fun m => lsB (lsA (ar 22) (nI m) 6) (ar 18) (ar 21) (nI m) na) most i
        first | rw [if_pos hc] at e9 | rw [if_neg hc] at e9
        refine v_pick (lv9 := [(0, .ref (ad 0)), (1, .int most), (2, .int f), (3, .int t), (4, .int n4), (5, .int (plS (fun m => nI (insN (fun j => senB (inSp (ar 12) f t) (ar 11) j np) (fun j => woI (ar 4 j) (nI m) 6) ns).length) (fun m => lsB (lsA (ar 22) (nI m) 6) (ar 18) (ar 21) (nI m) na) most (i + 1)).1), (6, .int (plS (fun m => nI (insN (fun j => senB (inSp (ar 12) f t) (ar 11) j np) (fun j => woI (ar 4 j) (nI m) 6) ns).length) (fun m => lsB (lsA (ar 22) (nI m) 6) (ar 18) (ar 21) (nI m) na) most (i + 1)).2.1), (7, .int (plS (fun m => nI (insN (fun j => senB (inSp (ar 12) f t) (ar 11) j np) (fun j => woI (ar 4 j) (nI m) 6) ns).length) (fun m => lsB (lsA (ar 22) (nI m) 6) (ar 18) (ar 21) (nI m) na) most (i + 1)).2.2), (8, .int (nI i))]) ⟨rfl, rfl, rfl, rfl, rfl, by rw [e9]; rfl, by rw [e9]; rfl, by rw [e9]; rfl, rfl, trivial⟩ ?_
        refine v_iincN C dX6_plan_114 rfl (by decide) rfl ?_
        refine v_goto (tgt := 45) C dX6_plan_117 (by decide) ?_
        exact ih (i + 1) (by omega) zw _ _ hM hF hs hq
      · refine v_iload C dX6_plan_81 rfl ?_
        refine v_iload C dX6_plan_83 rfl ?_
        refine v_icmp_lt (tgt := 102) C dX6_plan_85 (by decide) (fun c85 => ?_) (fun c85 => ?_)
        · have hc : ((fun m => nI (insN (fun j => senB (inSp (ar 12) f t) (ar 11) j np) (fun j => woI (ar 4 j) (nI m) 6) ns).length) i ≤ most ∧ ((plS (fun m => nI (insN (fun j => senB (inSp (ar 12) f t) (ar 11) j np) (fun j => woI (ar 4 j) (nI m) 6) ns).length) (fun m => lsB (lsA (ar 22) (nI m) 6) (ar 18) (ar 21) (nI m) na) most i).1 = (-9) ∨ (fun m => lsB (lsA (ar 22) (nI m) 6) (ar 18) (ar 21) (nI m) na) i < (plS (fun m => nI (insN (fun j => senB (inSp (ar 12) f t) (ar 11) j np) (fun j => woI (ar 4 j) (nI m) 6) ns).length) (fun m => lsB (lsA (ar 22) (nI m) 6) (ar 18) (ar 21) (nI m) na) most i).2.1 ∨ ((fun m => lsB (lsA (ar 22) (nI m) 6) (ar 18) (ar 21) (nI m) na) i = (plS (fun m => nI (insN (fun j => senB (inSp (ar 12) f t) (ar 11) j np) (fun j => woI (ar 4 j) (nI m) 6) ns).length) (fun m => lsB (lsA (ar 22) (nI m) 6) (ar 18) (ar 21) (nI m) na) most i).2.1 ∧ (plS (fun m => nI (insN (fun j => senB (inSp (ar 12) f t) (ar 11) j np) (fun j => woI (ar 4 j) (nI m) 6) ns).length) (fun m => lsB (lsA (ar 22) (nI m) 6) (ar 18) (ar 21) (nI m) na) most i).2.2 < (fun m => nI (insN (fun j => senB (inSp (ar 12) f t) (ar 11) j np) (fun j => woI (ar 4 j) (nI m) 6) ns).length) i))) := ⟨h71, Or.inr (Or.inl c85)⟩
          refine v_iload C dX6_plan_102 rfl ?_
          refine v_istore C dX6_plan_104 (by decide) rfl ?_
          refine v_iload C dX6_plan_106 rfl ?_
          refine v_istore C dX6_plan_108 (by decide) rfl ?_
          refine v_iload C dX6_plan_110 rfl ?_
          refine v_istore C dX6_plan_112 (by decide) rfl ?_
          have e9 := plS_s (fun m => nI (insN (fun j => senB (inSp (ar 12) f t) (ar 11) j np) (fun j => woI (ar 4 j) (nI m) 6) ns).length) (fun m => lsB (lsA (ar 22) (nI m) 6) (ar 18) (ar 21) (nI m) na) most i
          first | rw [if_pos hc] at e9 | rw [if_neg hc] at e9
          refine v_pick (lv9 := [(0, .ref (ad 0)), (1, .int most), (2, .int f), (3, .int t), (4, .int n4), (5, .int (plS (fun m => nI (insN (fun j => senB (inSp (ar 12) f t) (ar 11) j np) (fun j => woI (ar 4 j) (nI m) 6) ns).length) (fun m => lsB (lsA (ar 22) (nI m) 6) (ar 18) (ar 21) (nI m) na) most (i + 1)).1), (6, .int (plS (fun m => nI (insN (fun j => senB (inSp (ar 12) f t) (ar 11) j np) (fun j => woI (ar 4 j) (nI m) 6) ns).length) (fun m => lsB (lsA (ar 22) (nI m) 6) (ar 18) (ar 21) (nI m) na) most (i + 1)).2.1), (7, .int (plS (fun m => nI (insN (fun j => senB (inSp (ar 12) f t) (ar 11) j np) (fun j => woI (ar 4 j) (nI m) 6) ns).length) (fun m => lsB (lsA (ar 22) (nI m) 6) (ar 18) (ar 21) (nI m) na) most (i + 1)).2.2), (8, .int (nI i))]) ⟨rfl, rfl, rfl, rfl, rfl, by rw [e9]; rfl, by rw [e9]; rfl, by rw [e9]; rfl, rfl, trivial⟩ ?_
          refine v_iincN C dX6_plan_114 rfl (by decide) rfl ?_
          refine v_goto (tgt := 45) C dX6_plan_117 (by decide) ?_
          exact ih (i + 1) (by omega) zw _ _ hM hF hs hq
        · refine v_iload C dX6_plan_88 rfl ?_
          refine v_iload C dX6_plan_90 rfl ?_
          refine v_icmp_ne (tgt := 114) C dX6_plan_92 (by decide) (fun c92 => ?_) (fun c92 => ?_)
          · have hc : ¬ ((fun m => nI (insN (fun j => senB (inSp (ar 12) f t) (ar 11) j np) (fun j => woI (ar 4 j) (nI m) 6) ns).length) i ≤ most ∧ ((plS (fun m => nI (insN (fun j => senB (inSp (ar 12) f t) (ar 11) j np) (fun j => woI (ar 4 j) (nI m) 6) ns).length) (fun m => lsB (lsA (ar 22) (nI m) 6) (ar 18) (ar 21) (nI m) na) most i).1 = (-9) ∨ (fun m => lsB (lsA (ar 22) (nI m) 6) (ar 18) (ar 21) (nI m) na) i < (plS (fun m => nI (insN (fun j => senB (inSp (ar 12) f t) (ar 11) j np) (fun j => woI (ar 4 j) (nI m) 6) ns).length) (fun m => lsB (lsA (ar 22) (nI m) 6) (ar 18) (ar 21) (nI m) na) most i).2.1 ∨ ((fun m => lsB (lsA (ar 22) (nI m) 6) (ar 18) (ar 21) (nI m) na) i = (plS (fun m => nI (insN (fun j => senB (inSp (ar 12) f t) (ar 11) j np) (fun j => woI (ar 4 j) (nI m) 6) ns).length) (fun m => lsB (lsA (ar 22) (nI m) 6) (ar 18) (ar 21) (nI m) na) most i).2.1 ∧ (plS (fun m => nI (insN (fun j => senB (inSp (ar 12) f t) (ar 11) j np) (fun j => woI (ar 4 j) (nI m) 6) ns).length) (fun m => lsB (lsA (ar 22) (nI m) 6) (ar 18) (ar 21) (nI m) na) most i).2.2 < (fun m => nI (insN (fun j => senB (inSp (ar 12) f t) (ar 11) j np) (fun j => woI (ar 4 j) (nI m) 6) ns).length) i))) := fun h => h.2.elim c78 (fun h => h.elim c85 (fun h => c92 h.1))
            have e9 := plS_s (fun m => nI (insN (fun j => senB (inSp (ar 12) f t) (ar 11) j np) (fun j => woI (ar 4 j) (nI m) 6) ns).length) (fun m => lsB (lsA (ar 22) (nI m) 6) (ar 18) (ar 21) (nI m) na) most i
            first | rw [if_pos hc] at e9 | rw [if_neg hc] at e9
            refine v_pick (lv9 := [(0, .ref (ad 0)), (1, .int most), (2, .int f), (3, .int t), (4, .int n4), (5, .int (plS (fun m => nI (insN (fun j => senB (inSp (ar 12) f t) (ar 11) j np) (fun j => woI (ar 4 j) (nI m) 6) ns).length) (fun m => lsB (lsA (ar 22) (nI m) 6) (ar 18) (ar 21) (nI m) na) most (i + 1)).1), (6, .int (plS (fun m => nI (insN (fun j => senB (inSp (ar 12) f t) (ar 11) j np) (fun j => woI (ar 4 j) (nI m) 6) ns).length) (fun m => lsB (lsA (ar 22) (nI m) 6) (ar 18) (ar 21) (nI m) na) most (i + 1)).2.1), (7, .int (plS (fun m => nI (insN (fun j => senB (inSp (ar 12) f t) (ar 11) j np) (fun j => woI (ar 4 j) (nI m) 6) ns).length) (fun m => lsB (lsA (ar 22) (nI m) 6) (ar 18) (ar 21) (nI m) na) most (i + 1)).2.2), (8, .int (nI i))]) ⟨rfl, rfl, rfl, rfl, rfl, by rw [e9]; rfl, by rw [e9]; rfl, by rw [e9]; rfl, rfl, trivial⟩ ?_
            refine v_iincN C dX6_plan_114 rfl (by decide) rfl ?_
            refine v_goto (tgt := 45) C dX6_plan_117 (by decide) ?_
            exact ih (i + 1) (by omega) zw _ _ hM hF hs hq
          · refine v_iload C dX6_plan_95 rfl ?_
            refine v_iload C dX6_plan_97 rfl ?_
            refine v_icmp_le (tgt := 114) C dX6_plan_99 (by decide) (fun c99 => ?_) (fun c99 => ?_)
            · have hc : ¬ ((fun m => nI (insN (fun j => senB (inSp (ar 12) f t) (ar 11) j np) (fun j => woI (ar 4 j) (nI m) 6) ns).length) i ≤ most ∧ ((plS (fun m => nI (insN (fun j => senB (inSp (ar 12) f t) (ar 11) j np) (fun j => woI (ar 4 j) (nI m) 6) ns).length) (fun m => lsB (lsA (ar 22) (nI m) 6) (ar 18) (ar 21) (nI m) na) most i).1 = (-9) ∨ (fun m => lsB (lsA (ar 22) (nI m) 6) (ar 18) (ar 21) (nI m) na) i < (plS (fun m => nI (insN (fun j => senB (inSp (ar 12) f t) (ar 11) j np) (fun j => woI (ar 4 j) (nI m) 6) ns).length) (fun m => lsB (lsA (ar 22) (nI m) 6) (ar 18) (ar 21) (nI m) na) most i).2.1 ∨ ((fun m => lsB (lsA (ar 22) (nI m) 6) (ar 18) (ar 21) (nI m) na) i = (plS (fun m => nI (insN (fun j => senB (inSp (ar 12) f t) (ar 11) j np) (fun j => woI (ar 4 j) (nI m) 6) ns).length) (fun m => lsB (lsA (ar 22) (nI m) 6) (ar 18) (ar 21) (nI m) na) most i).2.1 ∧ (plS (fun m => nI (insN (fun j => senB (inSp (ar 12) f t) (ar 11) j np) (fun j => woI (ar 4 j) (nI m) 6) ns).length) (fun m => lsB (lsA (ar 22) (nI m) 6) (ar 18) (ar 21) (nI m) na) most i).2.2 < (fun m => nI (insN (fun j => senB (inSp (ar 12) f t) (ar 11) j np) (fun j => woI (ar 4 j) (nI m) 6) ns).length) i))) := fun h => h.2.elim c78 (fun h => h.elim c85 (fun h => absurd h.2 (by rw [fa_lt]; rw [fa_le] at c99; omega)))
              have e9 := plS_s (fun m => nI (insN (fun j => senB (inSp (ar 12) f t) (ar 11) j np) (fun j => woI (ar 4 j) (nI m) 6) ns).length) (fun m => lsB (lsA (ar 22) (nI m) 6) (ar 18) (ar 21) (nI m) na) most i
              first | rw [if_pos hc] at e9 | rw [if_neg hc] at e9
              refine v_pick (lv9 := [(0, .ref (ad 0)), (1, .int most), (2, .int f), (3, .int t), (4, .int n4), (5, .int (plS (fun m => nI (insN (fun j => senB (inSp (ar 12) f t) (ar 11) j np) (fun j => woI (ar 4 j) (nI m) 6) ns).length) (fun m => lsB (lsA (ar 22) (nI m) 6) (ar 18) (ar 21) (nI m) na) most (i + 1)).1), (6, .int (plS (fun m => nI (insN (fun j => senB (inSp (ar 12) f t) (ar 11) j np) (fun j => woI (ar 4 j) (nI m) 6) ns).length) (fun m => lsB (lsA (ar 22) (nI m) 6) (ar 18) (ar 21) (nI m) na) most (i + 1)).2.1), (7, .int (plS (fun m => nI (insN (fun j => senB (inSp (ar 12) f t) (ar 11) j np) (fun j => woI (ar 4 j) (nI m) 6) ns).length) (fun m => lsB (lsA (ar 22) (nI m) 6) (ar 18) (ar 21) (nI m) na) most (i + 1)).2.2), (8, .int (nI i))]) ⟨rfl, rfl, rfl, rfl, rfl, by rw [e9]; rfl, by rw [e9]; rfl, by rw [e9]; rfl, rfl, trivial⟩ ?_
              refine v_iincN C dX6_plan_114 rfl (by decide) rfl ?_
              refine v_goto (tgt := 45) C dX6_plan_117 (by decide) ?_
              exact ih (i + 1) (by omega) zw _ _ hM hF hs hq
            · have hc : ((fun m => nI (insN (fun j => senB (inSp (ar 12) f t) (ar 11) j np) (fun j => woI (ar 4 j) (nI m) 6) ns).length) i ≤ most ∧ ((plS (fun m => nI (insN (fun j => senB (inSp (ar 12) f t) (ar 11) j np) (fun j => woI (ar 4 j) (nI m) 6) ns).length) (fun m => lsB (lsA (ar 22) (nI m) 6) (ar 18) (ar 21) (nI m) na) most i).1 = (-9) ∨ (fun m => lsB (lsA (ar 22) (nI m) 6) (ar 18) (ar 21) (nI m) na) i < (plS (fun m => nI (insN (fun j => senB (inSp (ar 12) f t) (ar 11) j np) (fun j => woI (ar 4 j) (nI m) 6) ns).length) (fun m => lsB (lsA (ar 22) (nI m) 6) (ar 18) (ar 21) (nI m) na) most i).2.1 ∨ ((fun m => lsB (lsA (ar 22) (nI m) 6) (ar 18) (ar 21) (nI m) na) i = (plS (fun m => nI (insN (fun j => senB (inSp (ar 12) f t) (ar 11) j np) (fun j => woI (ar 4 j) (nI m) 6) ns).length) (fun m => lsB (lsA (ar 22) (nI m) 6) (ar 18) (ar 21) (nI m) na) most i).2.1 ∧ (plS (fun m => nI (insN (fun j => senB (inSp (ar 12) f t) (ar 11) j np) (fun j => woI (ar 4 j) (nI m) 6) ns).length) (fun m => lsB (lsA (ar 22) (nI m) 6) (ar 18) (ar 21) (nI m) na) most i).2.2 < (fun m => nI (insN (fun j => senB (inSp (ar 12) f t) (ar 11) j np) (fun j => woI (ar 4 j) (nI m) 6) ns).length) i))) := ⟨h71, Or.inr (Or.inr ⟨c92, by rw [fa_lt]; rw [fa_le] at c99; omega⟩)⟩
              refine v_iload C dX6_plan_102 rfl ?_
              refine v_istore C dX6_plan_104 (by decide) rfl ?_
              refine v_iload C dX6_plan_106 rfl ?_
              refine v_istore C dX6_plan_108 (by decide) rfl ?_
              refine v_iload C dX6_plan_110 rfl ?_
              refine v_istore C dX6_plan_112 (by decide) rfl ?_
              have e9 := plS_s (fun m => nI (insN (fun j => senB (inSp (ar 12) f t) (ar 11) j np) (fun j => woI (ar 4 j) (nI m) 6) ns).length) (fun m => lsB (lsA (ar 22) (nI m) 6) (ar 18) (ar 21) (nI m) na) most i
              first | rw [if_pos hc] at e9 | rw [if_neg hc] at e9
              refine v_pick (lv9 := [(0, .ref (ad 0)), (1, .int most), (2, .int f), (3, .int t), (4, .int n4), (5, .int (plS (fun m => nI (insN (fun j => senB (inSp (ar 12) f t) (ar 11) j np) (fun j => woI (ar 4 j) (nI m) 6) ns).length) (fun m => lsB (lsA (ar 22) (nI m) 6) (ar 18) (ar 21) (nI m) na) most (i + 1)).1), (6, .int (plS (fun m => nI (insN (fun j => senB (inSp (ar 12) f t) (ar 11) j np) (fun j => woI (ar 4 j) (nI m) 6) ns).length) (fun m => lsB (lsA (ar 22) (nI m) 6) (ar 18) (ar 21) (nI m) na) most (i + 1)).2.1), (7, .int (plS (fun m => nI (insN (fun j => senB (inSp (ar 12) f t) (ar 11) j np) (fun j => woI (ar 4 j) (nI m) 6) ns).length) (fun m => lsB (lsA (ar 22) (nI m) 6) (ar 18) (ar 21) (nI m) na) most (i + 1)).2.2), (8, .int (nI i))]) ⟨rfl, rfl, rfl, rfl, rfl, by rw [e9]; rfl, by rw [e9]; rfl, by rw [e9]; rfl, rfl, trivial⟩ ?_
              refine v_iincN C dX6_plan_114 rfl (by decide) rfl ?_
              refine v_goto (tgt := 45) C dX6_plan_117 (by decide) ?_
              exact ih (i + 1) (by omega) zw _ _ hM hF hs hq
theorem kwX6_plan_c170 : Cond.constantLong RX6 170 (120) ∈ wsX6_plan := by decide +kernel
set_option maxHeartbeats 4000000 in
set_option maxRecDepth 100000 in
theorem c_X6_plan (l : Launch) (E : gE) (zw : va_W) {ad : Nat → Nat} {g : Nat → Int32} {ar : Nat → Nat → Int32} (hM : mAt zw (mcl E ad g ar)) {tk ns np na : Nat} (hI : MI g ar tk ns np na) (most f t : Int32) : CtI l yX6_plan wsX6_plan ({ frames := 2, cells := 0, slots := 0, locals := 47 }) E [.ref (ad 0), .int most, .int f, .int t] zw (fun r w1 => ∃ (g1 : Nat → Int32) (ar1 : Nat → Nat → Int32), mAt w1 (mcl E ad g1 ar1) ∧ mFr zw w1 ∧ mSc g ar g1 ar1 ∧ r = if (0 ≤ most.toInt ∧ most.toInt ≤ 120) ∧ (0 ≤ t.toInt ∧ t.toInt ≤ (g 0).toInt ∧ 0 ≤ f.toInt ∧ f.toInt ≤ t.toInt) then (plS (fun m => nI (insN (fun j => senB (inSp (ar 12) f t) (ar 11) j np) (fun j => woI (ar 4 j) (nI m) 6) ns).length) (fun m => lsB (lsA (ar 22) (nI m) 6) (ar 18) (ar 21) (nI m) na) most 64).1 else (-2)) 0 0 := by
  refine Ct.of (cc := cX6_plan) (nL := 11) (ret := (some .int)) (by decide) rfl (Nat.le_of_ble_eq_true rfl) ?_
  intro p e s m args below meth c C hr hnm
  refine v_eqlv (lv9 := [(0, .ref (ad 0)), (1, .int most), (2, .int f), (3, .int t)]) rfl ?_
  obtain ⟨w0, hw0⟩ : ∃ w0 : va_W, w0 = zw := ⟨_, rfl⟩
  have hF : mFr w0 zw := by rw [hw0]; exact mFr.rf zw
  refine v_iload_n C dX6_plan_0 rfl rfl ?_
  refine v_i2l C dX6_plan_1 rfl ?_
  refine v_lconst (v := 0) C dX6_plan_2 (by decide) ?_
  refine v_ldc2 C kwX6_plan_c170 dX6_plan_3 ?_
  refine v_callSi C (c_X6_in l E zw _ _ _) (va_cwS 3 C.1.2.2.2.2 gX6_plan_X6_in rfl rfl rfl (by decide +kernel) ⟨by decide, by decide⟩) rfl rfl (Nat.le_of_ble_eq_true rfl) dX6_plan_6 ⟨Nat.le_of_ble_eq_true rfl, Nat.le_of_ble_eq_true rfl⟩ (fun r w1 hp => ?_)
  obtain ⟨rfl, rfl⟩ := hp
  refine v_if_eq (tgt := 21) C dX6_plan_9 (by decide) (fun c9 => ?_) (fun c9 => ?_)
  · have c9 := b01_0 c9
    simp only [t64, tl_0, tl_120] at c9
    refine v_bipush (v := (-2)) C dX6_plan_21 (by decide) ?_
    exact v_iret C hr dX6_plan_23 (Nat.le_refl _) (Nat.le_refl _) ⟨_, rfl, (by first | exact ⟨_, _, hM, hw0 ▸ hF, hs, by rw [if_pos ⟨c9, c18⟩]⟩ | exact ⟨g, ar, hM, hw0 ▸ hF, mSc.rf g ar, by first | rw [if_neg (fun h => c9 h.1)] | rw [if_neg (fun h => c18 h.2)]⟩)⟩
  · have c9 := b01_n c9
    simp only [t64, tl_0, tl_120] at c9
    refine v_aload_n C dX6_plan_12 rfl rfl ?_
    refine v_iload_n C dX6_plan_13 rfl rfl ?_
    refine v_iload_n C dX6_plan_14 rfl rfl ?_
    refine v_callVi C (c_X6_isSpan l E zw hM _ _) (cwV 2 C.1.2.2.2.2 gX6_plan_X6_isSpan rfl rfl rfl (by decide +kernel) ⟨by decide, by decide⟩) 12 7 (hM 0 _ rfl) rfl rfl rfl (Nat.le_of_ble_eq_true rfl) dX6_plan_15 ⟨Nat.le_of_ble_eq_true rfl, Nat.le_of_ble_eq_true rfl⟩ (fun r w1 hp => ?_)
    obtain ⟨rfl, rfl⟩ := hp
    refine v_if_ne (tgt := 24) C dX6_plan_18 (by decide) (fun c18 => ?_) (fun c18 => ?_)
    · have c18 := b01_n c18
      refine v_aload_n C dX6_plan_24 rfl rfl ?_
      refine v_iload_n C dX6_plan_25 rfl rfl ?_
      refine v_iload_n C dX6_plan_26 rfl rfl ?_
      refine v_callVi C (c_X6_look l E zw hM hI _ _) (cwV 2 C.1.2.2.2.2 gX6_plan_X6_look rfl rfl rfl (by decide +kernel) ⟨by decide, by decide⟩) 12 7 (hM 0 _ rfl) rfl rfl rfl (Nat.le_of_ble_eq_true rfl) dX6_plan_27 ⟨Nat.le_of_ble_eq_true rfl, Nat.le_of_ble_eq_true rfl⟩ (fun r zw hp => ?_)
      obtain ⟨zF, hM, hF1, hz, rfl⟩ := hp
      have hF := hF.tr hF1
      refine v_istore C dX6_plan_30 (by decide) rfl ?_
      refine v_bipush (v := (-9)) C dX6_plan_32 (by decide) ?_
      refine v_istore C dX6_plan_34 (by decide) rfl ?_
      refine v_iconst (v := 0) C dX6_plan_36 (by decide) ?_
      refine v_istore C dX6_plan_37 (by decide) rfl ?_
      refine v_at (pc9 := 39) rfl ?_
      refine v_iconst (v := 0) C dX6_plan_39 (by decide) ?_
      refine v_istore C dX6_plan_40 (by decide) rfl ?_
      refine v_iconst (v := 0) C dX6_plan_42 (by decide) ?_
      refine v_tov nI_0.symm ?_
      refine v_istore C dX6_plan_43 (by decide) rfl ?_
      refine lp_X6_plan (w0 := w0) C hI ?_ 64 0 rfl zw g (va_up ar 14 zF) hM hF (mSc.f zF) hz
      intro zw g1 ar1 hM hF hs hq
      refine v_iload C dX6_plan_120 rfl ?_
      exact v_iret C hr dX6_plan_122 (Nat.le_refl _) (Nat.le_refl _) ⟨_, rfl, (by first | exact ⟨_, _, hM, hw0 ▸ hF, hs, by rw [if_pos ⟨c9, c18⟩]⟩ | exact ⟨g, ar, hM, hw0 ▸ hF, mSc.rf g ar, by first | rw [if_neg (fun h => c9 h.1)] | rw [if_neg (fun h => c18 h.2)]⟩)⟩
    · have c18 := b01_0 c18
      refine v_bipush (v := (-2)) C dX6_plan_21 (by decide) ?_
      exact v_iret C hr dX6_plan_23 (Nat.le_refl _) (Nat.le_refl _) ⟨_, rfl, (by first | exact ⟨_, _, hM, hw0 ▸ hF, hs, by rw [if_pos ⟨c9, c18⟩]⟩ | exact ⟨g, ar, hM, hw0 ▸ hF, mSc.rf g ar, by first | rw [if_neg (fun h => c9 h.1)] | rw [if_neg (fun h => c18 h.2)]⟩)⟩
/-- how many are wanted -/
def cnI (p : Nat → Bool) : Nat → Int32
  | 0 => 0
  | i + 1 => cnI p i + (bif p i then 1 else 0)
theorem inX6_bill_X6 : ∀ x ∈ wsX60, x ∈ wsX6_bill := by decide +kernel
theorem kwX6_bill_81 : Cond.fieldLink RX6 81 "SeriesMarksModel" "series" "I" ∈ wsX6_bill := by decide +kernel
theorem kwX6_bill_44 : Cond.fieldLink RX6 44 "SeriesMarksModel" "isSeen" "[Z" ∈ wsX6_bill := by decide +kernel
theorem kwX6_bill_17 : Cond.fieldLink RX6 17 "SeriesMarksModel" "name" "[I" ∈ wsX6_bill := by decide +kernel
set_option maxHeartbeats 4000000 in
set_option maxRecDepth 100000 in
theorem lp_X6_bill {p : Program} {l : Launch} {e : Env} {s : State} {m : MethodId} {args : Array Value} {below : List Frame} {meth : Method} {c : Code} {Q : State → Prop} {E : gE} {zw : va_W} (C : gC p s m args meth c E cX6_bill 8 wsX6_bill yX6_bill.cls) {ad : Nat → Nat} {g : Nat → Int32} {ar : Nat → Nat → Int32} {zF : Nat → Int32} (hM : mAt zw (mcl E ad g (va_up ar 14 zF))) {tk ns np na : Nat} (hI : MI g ar tk ns np na) {mk v f t n5 : Int32} (hz : ∀ j, j < ns → zF j = b01 ((fun j => senB (inSp (ar 12) f t) (ar 11) j np) j = true)) (hK : V p l e ({ frames := 2, cells := 0, slots := 0, locals := 47 }) s m args below meth c E 8 zw 0 0 Q 94 [(0, .ref (ad 0)), (1, .int mk), (2, .int v), (3, .int f), (4, .int t), (5, .int n5), (6, .int (cnI (fun j => (fun j => senB (inSp (ar 12) f t) (ar 11) j np) j && decide (dgt (ar 4 j) mk = v)) ns)), (7, .int (nI ns))] []) : ∀ n i : Nat, i + n = ns → V p l e ({ frames := 2, cells := 0, slots := 0, locals := 47 }) s m args below meth c E 8 zw 0 0 Q 44 [(0, .ref (ad 0)), (1, .int mk), (2, .int v), (3, .int f), (4, .int t), (5, .int n5), (6, .int (cnI (fun j => (fun j => senB (inSp (ar 12) f t) (ar 11) j np) j && decide (dgt (ar 4 j) mk = v)) i)), (7, .int (nI i))] [] := by
  intro n
  induction n with
  | zero =>
    intro i hi
    obtain rfl : i = ns := by omega
    refine v_iload C dX6_bill_44 rfl ?_
    refine v_aload_n C dX6_bill_46 rfl rfl ?_
    refine vm_get (v := .int (g 3)) C hM inX6_bill_X6 3 (by decide) kwX6_bill_81 rfl rfl dX6_bill_47 ?_
    refine v_icmp_ge (tgt := 94) C dX6_bill_50 (by decide) (fun c50 => ?_) (fun c50 => absurd (by rw [hI.2.1.1]; exact nI_le (Nat.le_refl _) (by have := hI.ser.2; omega)) c50)
    exact hK
  | succ n ih =>
    intro i hi
    refine v_iload C dX6_bill_44 rfl ?_
    refine v_aload_n C dX6_bill_46 rfl rfl ?_
    refine vm_get (v := .int (g 3)) C hM inX6_bill_X6 3 (by decide) kwX6_bill_81 rfl rfl dX6_bill_47 ?_
    refine v_icmp_ge (tgt := 94) C dX6_bill_50 (by decide) (fun c50 => absurd c50 (by rw [hI.2.1.1]; exact nI_ge (by omega) (by have := hI.ser.2; omega))) (fun c50 => ?_)
    refine v_iload C dX6_bill_53 rfl ?_
    refine v_aload_n C dX6_bill_55 rfl rfl ?_
    refine vm_get (v := .ref (ad 14)) C hM inX6_bill_X6 14 (by decide) kwX6_bill_44 rfl rfl dX6_bill_56 ?_
    refine v_iload C dX6_bill_59 rfl ?_
    refine vm_zald (f := zF) C hM 12 rfl (vp_in_nI (by have := hI.ser.2; omega) (by decide)) dX6_bill_61 ?_
    refine v_at (pc9 := 62) rfl ?_
    rw [nI_clamp (show i < 2 ^ 31 by have := hI.ser.2; omega)]
    refine v_if_eq (tgt := 84) C dX6_bill_62 (by decide) (fun c62 => ?_) (fun c62 => ?_)
    · have h9 : (fun j => (fun j => senB (inSp (ar 12) f t) (ar 11) j np) j && decide (dgt (ar 4 j) mk = v)) i = false := by simp [q_f (q := (fun j => senB (inSp (ar 12) f t) (ar 11) j np)) (hz i (by omega)) c62]
      refine v_iconst (v := 0) C dX6_bill_84 (by decide) ?_
      refine v_tov (y := bif (fun j => (fun j => senB (inSp (ar 12) f t) (ar 11) j np) j && decide (dgt (ar 4 j) mk = v)) i then 1 else 0) (by rw [h9]; rfl) ?_
      refine v_iadd C dX6_bill_85 ?_
      refine v_istore C dX6_bill_86 (by decide) rfl ?_
      refine v_iincN C dX6_bill_88 rfl (by decide) rfl ?_
      refine v_goto (tgt := 44) C dX6_bill_91 (by decide) ?_
      exact ih (i + 1) (by omega)
    · refine v_aload_n C dX6_bill_65 rfl rfl ?_
      refine vm_get (v := .ref (ad 4)) C hM inX6_bill_X6 4 (by decide) kwX6_bill_17 rfl rfl dX6_bill_66 ?_
      refine v_iload C dX6_bill_69 rfl ?_
      refine vm_iald (f := ar 4) C hM 3 rfl (vp_in_nI (by have := hI.ser.2; omega) (by decide)) dX6_bill_71 ?_
      rw [nI_clamp (show i < 2 ^ 31 by have := hI.ser.2; omega)]
      refine v_iload_n C dX6_bill_72 rfl rfl ?_
      refine v_callSi C (c_X6_digit l E zw _ _) (va_cwS 2 C.1.2.2.2.2 gX6_bill_X6_digit rfl rfl rfl (by decide +kernel) ⟨by decide, by decide⟩) rfl rfl (Nat.le_of_ble_eq_true rfl) dX6_bill_73 ⟨Nat.le_of_ble_eq_true rfl, Nat.le_of_ble_eq_true rfl⟩ (fun r w1 hp => ?_)
      obtain ⟨rfl, rfl⟩ := hp
      refine v_iload_n C dX6_bill_76 rfl rfl ?_
      refine v_icmp_ne (tgt := 84) C dX6_bill_77 (by decide) (fun c77 => ?_) (fun c77 => ?_)
      · have h9 : (fun j => (fun j => senB (inSp (ar 12) f t) (ar 11) j np) j && decide (dgt (ar 4 j) mk = v)) i = false := by simp [c77]
        refine v_iconst (v := 0) C dX6_bill_84 (by decide) ?_
        refine v_tov (y := bif (fun j => (fun j => senB (inSp (ar 12) f t) (ar 11) j np) j && decide (dgt (ar 4 j) mk = v)) i then 1 else 0) (by rw [h9]; rfl) ?_
        refine v_iadd C dX6_bill_85 ?_
        refine v_istore C dX6_bill_86 (by decide) rfl ?_
        refine v_iincN C dX6_bill_88 rfl (by decide) rfl ?_
        refine v_goto (tgt := 44) C dX6_bill_91 (by decide) ?_
        exact ih (i + 1) (by omega)
      · have h9 : (fun j => (fun j => senB (inSp (ar 12) f t) (ar 11) j np) j && decide (dgt (ar 4 j) mk = v)) i = true := by simp only [Bool.and_eq_true, decide_eq_true_eq]; exact ⟨q_t (q := (fun j => senB (inSp (ar 12) f t) (ar 11) j np)) (hz i (by omega)) c62, c77⟩
        refine v_iconst (v := 1) C dX6_bill_80 (by decide) ?_
        refine v_goto (tgt := 85) C dX6_bill_81 (by decide) ?_
        refine v_tov (y := bif (fun j => (fun j => senB (inSp (ar 12) f t) (ar 11) j np) j && decide (dgt (ar 4 j) mk = v)) i then 1 else 0) (by rw [h9]; rfl) ?_
        refine v_iadd C dX6_bill_85 ?_
        refine v_istore C dX6_bill_86 (by decide) rfl ?_
        refine v_iincN C dX6_bill_88 rfl (by decide) rfl ?_
        refine v_goto (tgt := 44) C dX6_bill_91 (by decide) ?_
        exact ih (i + 1) (by omega)
set_option maxHeartbeats 4000000 in
set_option maxRecDepth 100000 in
theorem c_X6_bill (l : Launch) (E : gE) (zw : va_W) {ad : Nat → Nat} {g : Nat → Int32} {ar : Nat → Nat → Int32} (hM : mAt zw (mcl E ad g ar)) {tk ns np na : Nat} (hI : MI g ar tk ns np na) (mk v f t : Int32) : CtI l yX6_bill wsX6_bill ({ frames := 2, cells := 0, slots := 0, locals := 47 }) E [.ref (ad 0), .int mk, .int v, .int f, .int t] zw (fun r w1 => ∃ (g1 : Nat → Int32) (ar1 : Nat → Nat → Int32), mAt w1 (mcl E ad g1 ar1) ∧ mFr zw w1 ∧ mSc g ar g1 ar1 ∧ r = if (0 ≤ mk.toInt ∧ mk.toInt ≤ 5) ∧ 0 ≤ v.toInt ∧ v.toInt ≤ 7 then (if 0 ≤ t.toInt ∧ t.toInt ≤ (g 0).toInt ∧ 0 ≤ f.toInt ∧ f.toInt ≤ t.toInt then cnI (fun j => (fun j => senB (inSp (ar 12) f t) (ar 11) j np) j && decide (dgt (ar 4 j) mk = v)) ns else (-2)) else (-1)) 0 0 := by
  refine Ct.of (cc := cX6_bill) (nL := 8) (ret := (some .int)) (by decide) rfl (Nat.le_of_ble_eq_true rfl) ?_
  intro p e s m args below meth c C hr hnm
  refine v_eqlv (lv9 := [(0, .ref (ad 0)), (1, .int mk), (2, .int v), (3, .int f), (4, .int t)]) rfl ?_
  refine v_iload_n C dX6_bill_0 rfl rfl ?_
  refine v_callSi C (c_X6_isMark l E zw _) (va_cwS 1 C.1.2.2.2.2 gX6_bill_X6_isMark rfl rfl rfl (by decide +kernel) ⟨by decide, by decide⟩) rfl rfl (Nat.le_of_ble_eq_true rfl) dX6_bill_1 ⟨Nat.le_of_ble_eq_true rfl, Nat.le_of_ble_eq_true rfl⟩ (fun r w1 hp => ?_)
  obtain ⟨rfl, rfl⟩ := hp
  refine v_if_eq (tgt := 14) C dX6_bill_4 (by decide) (fun c4 => ?_) (fun c4 => ?_)
  · have c4 := b01_0 c4
    refine v_iconst (v := (-1)) C dX6_bill_14 (by decide) ?_
    exact v_iret C hr dX6_bill_15 (Nat.le_refl _) (Nat.le_refl _) ⟨_, rfl, (by first | exact ⟨_, _, hM, hF, mSc.f zF, by rw [if_pos ⟨c4, c11⟩, if_pos c23]⟩ | exact ⟨g, ar, hM, mFr.rf _, mSc.rf g ar, by first | rw [if_neg (fun h => c4 h.1)] | rw [if_neg (fun h => c11 h.2)] | rw [if_pos ⟨c4, c11⟩, if_neg c23]⟩)⟩
  · have c4 := b01_n c4
    refine v_iload_n C dX6_bill_7 rfl rfl ?_
    refine v_callSi C (c_X6_isValue l E zw _) (va_cwS 1 C.1.2.2.2.2 gX6_bill_X6_isValue rfl rfl rfl (by decide +kernel) ⟨by decide, by decide⟩) rfl rfl (Nat.le_of_ble_eq_true rfl) dX6_bill_8 ⟨Nat.le_of_ble_eq_true rfl, Nat.le_of_ble_eq_true rfl⟩ (fun r w1 hp => ?_)
    obtain ⟨rfl, rfl⟩ := hp
    refine v_if_ne (tgt := 16) C dX6_bill_11 (by decide) (fun c11 => ?_) (fun c11 => ?_)
    · have c11 := b01_n c11
      refine v_aload_n C dX6_bill_16 rfl rfl ?_
      refine v_iload_n C dX6_bill_17 rfl rfl ?_
      refine v_iload C dX6_bill_18 rfl ?_
      refine v_callVi C (c_X6_isSpan l E zw hM _ _) (cwV 2 C.1.2.2.2.2 gX6_bill_X6_isSpan rfl rfl rfl (by decide +kernel) ⟨by decide, by decide⟩) 12 7 (hM 0 _ rfl) rfl rfl rfl (Nat.le_of_ble_eq_true rfl) dX6_bill_20 ⟨Nat.le_of_ble_eq_true rfl, Nat.le_of_ble_eq_true rfl⟩ (fun r w1 hp => ?_)
      obtain ⟨rfl, rfl⟩ := hp
      refine v_if_ne (tgt := 29) C dX6_bill_23 (by decide) (fun c23 => ?_) (fun c23 => ?_)
      · have c23 := b01_n c23
        refine v_aload_n C dX6_bill_29 rfl rfl ?_
        refine v_iload_n C dX6_bill_30 rfl rfl ?_
        refine v_iload C dX6_bill_31 rfl ?_
        refine v_callVi C (c_X6_look l E zw hM hI _ _) (cwV 2 C.1.2.2.2.2 gX6_bill_X6_look rfl rfl rfl (by decide +kernel) ⟨by decide, by decide⟩) 12 7 (hM 0 _ rfl) rfl rfl rfl (Nat.le_of_ble_eq_true rfl) dX6_bill_33 ⟨Nat.le_of_ble_eq_true rfl, Nat.le_of_ble_eq_true rfl⟩ (fun r zw hp => ?_)
        obtain ⟨zF, hM, hF, hz, rfl⟩ := hp
        refine v_istore C dX6_bill_36 (by decide) rfl ?_
        refine v_iconst (v := 0) C dX6_bill_38 (by decide) ?_
        refine v_istore C dX6_bill_39 (by decide) rfl ?_
        refine v_iconst (v := 0) C dX6_bill_41 (by decide) ?_
        refine v_tov nI_0.symm ?_
        refine v_istore C dX6_bill_42 (by decide) rfl ?_
        refine lp_X6_bill C hM hI hz ?_ ns 0 (Nat.zero_add _)
        refine v_iload C dX6_bill_94 rfl ?_
        exact v_iret C hr dX6_bill_96 (Nat.le_refl _) (Nat.le_refl _) ⟨_, rfl, (by first | exact ⟨_, _, hM, hF, mSc.f zF, by rw [if_pos ⟨c4, c11⟩, if_pos c23]⟩ | exact ⟨g, ar, hM, mFr.rf _, mSc.rf g ar, by first | rw [if_neg (fun h => c4 h.1)] | rw [if_neg (fun h => c11 h.2)] | rw [if_pos ⟨c4, c11⟩, if_neg c23]⟩)⟩
      · have c23 := b01_0 c23
        refine v_bipush (v := (-2)) C dX6_bill_26 (by decide) ?_
        exact v_iret C hr dX6_bill_28 (Nat.le_refl _) (Nat.le_refl _) ⟨_, rfl, (by first | exact ⟨_, _, hM, hF, mSc.f zF, by rw [if_pos ⟨c4, c11⟩, if_pos c23]⟩ | exact ⟨g, ar, hM, mFr.rf _, mSc.rf g ar, by first | rw [if_neg (fun h => c4 h.1)] | rw [if_neg (fun h => c11 h.2)] | rw [if_pos ⟨c4, c11⟩, if_neg c23]⟩)⟩
    · have c11 := b01_0 c11
      refine v_iconst (v := (-1)) C dX6_bill_14 (by decide) ?_
      exact v_iret C hr dX6_bill_15 (Nat.le_refl _) (Nat.le_refl _) ⟨_, rfl, (by first | exact ⟨_, _, hM, hF, mSc.f zF, by rw [if_pos ⟨c4, c11⟩, if_pos c23]⟩ | exact ⟨g, ar, hM, mFr.rf _, mSc.rf g ar, by first | rw [if_neg (fun h => c4 h.1)] | rw [if_neg (fun h => c11 h.2)] | rw [if_pos ⟨c4, c11⟩, if_neg c23]⟩)⟩
theorem inX6_count_X6 : ∀ x ∈ wsX60, x ∈ wsX6_count := by decide +kernel
theorem kwX6_count_7 : Cond.fieldLink RX6 7 "SeriesMarksModel" "dropped" "[Z" ∈ wsX6_count := by decide +kernel
theorem kwX6_count_65 : Cond.fieldLink RX6 65 "SeriesMarksModel" "tick" "I" ∈ wsX6_count := by decide +kernel
set_option maxHeartbeats 4000000 in
set_option maxRecDepth 100000 in
theorem lp_X6_count {p : Program} {l : Launch} {e : Env} {R : Room} {s : State} {m : MethodId} {args : Array Value} {below : List Frame} {meth : Method} {c : Code} {cells slots : Nat} {Q : State → Prop} {E : gE} {zw : va_W} (C : gC p s m args meth c E cX6_count 4 wsX6_count yX6_count.cls) {ad : Nat → Nat} {g : Nat → Int32} {ar : Nat → Nat → Int32} (hM : mAt zw (mcl E ad g ar)) {tk ns np na : Nat} (hI : MI g ar tk ns np na) {x : Int32} (hK : V p l e R s m args below meth c E 4 zw cells slots Q 95 [(0, .ref (ad 0)), (1, .int x), (2, .int (cnI (fun m => decide (¬ ar 1 (6 * tk + m) = 0)) 6)), (3, .int (nI 6))] []) : ∀ n i : Nat, i + n = 6 → V p l e R s m args below meth c E 4 zw cells slots Q 58 [(0, .ref (ad 0)), (1, .int x), (2, .int (cnI (fun m => decide (¬ ar 1 (6 * tk + m) = 0)) i)), (3, .int (nI i))] [] := by
  intro n
  induction n with
  | zero =>
    intro i hi
    obtain rfl : i = 6 := by omega
    refine v_iload_n C dX6_count_58 rfl rfl ?_
    refine v_bipush (v := 6) C dX6_count_59 (by decide) ?_
    refine v_icmp_ge (tgt := 95) C dX6_count_61 (by decide) (fun c61 => ?_) (fun c61 => absurd (by rw [fa_le, ti_6, nI_toInt (by omega)]; omega) c61)
    exact hK
  | succ n ih =>
    intro i hi
    refine v_iload_n C dX6_count_58 rfl rfl ?_
    refine v_bipush (v := 6) C dX6_count_59 (by decide) ?_
    refine v_icmp_ge (tgt := 95) C dX6_count_61 (by decide) (fun c61 => absurd c61 (by rw [fa_le, ti_6, nI_toInt (by omega)]; omega)) (fun c61 => ?_)
    refine v_iload_n C dX6_count_64 rfl rfl ?_
    refine v_aload_n C dX6_count_65 rfl rfl ?_
    refine vm_get (v := .ref (ad 1)) C hM inX6_count_X6 1 (by decide) kwX6_count_7 rfl rfl dX6_count_66 ?_
    refine v_bipush (v := 6) C dX6_count_69 (by decide) ?_
    refine v_aload_n C dX6_count_71 rfl rfl ?_
    refine vm_get (v := .int (g 0)) C hM inX6_count_X6 0 (by decide) kwX6_count_65 rfl rfl dX6_count_72 ?_
    refine v_at (pc9 := 75) rfl ?_
    refine v_imul C dX6_count_75 ?_
    refine v_iload_n C dX6_count_76 rfl rfl ?_
    refine v_iadd C dX6_count_77 ?_
    refine v_tov (show 6 * g 0 + nI i = nI (6 * tk + i) by rw [hI.1.1, ix6]) ?_
    refine vm_zald (f := ar 1) C hM 1 rfl (vp_in_nI (by have := hI.tick.2; omega) (by decide)) dX6_count_78 ?_
    rw [nI_clamp (by have := hI.tick.2; omega)]
    refine v_if_eq (tgt := 86) C dX6_count_79 (by decide) (fun c79 => ?_) (fun c79 => ?_)
    · refine v_iconst (v := 0) C dX6_count_86 (by decide) ?_
      refine v_tov (y := bif (fun m => decide (¬ ar 1 (6 * tk + m) = 0)) i then 1 else 0) (by simp [c79]) ?_
      refine v_iadd C dX6_count_87 ?_
      refine v_istore_n C dX6_count_88 rfl (by decide) rfl ?_
      refine v_iincN C dX6_count_89 rfl (by decide) rfl ?_
      refine v_goto (tgt := 58) C dX6_count_92 (by decide) ?_
      exact ih (i + 1) (by omega)
    · refine v_iconst (v := 1) C dX6_count_82 (by decide) ?_
      refine v_goto (tgt := 87) C dX6_count_83 (by decide) ?_
      refine v_tov (y := bif (fun m => decide (¬ ar 1 (6 * tk + m) = 0)) i then 1 else 0) (by simp [c79]) ?_
      refine v_iadd C dX6_count_87 ?_
      refine v_istore_n C dX6_count_88 rfl (by decide) rfl ?_
      refine v_iincN C dX6_count_89 rfl (by decide) rfl ?_
      refine v_goto (tgt := 58) C dX6_count_92 (by decide) ?_
      exact ih (i + 1) (by omega)
theorem kwX6_count_81 : Cond.fieldLink RX6 81 "SeriesMarksModel" "series" "I" ∈ wsX6_count := by decide +kernel
theorem kwX6_count_94 : Cond.fieldLink RX6 94 "SeriesMarksModel" "samples" "I" ∈ wsX6_count := by decide +kernel
theorem kwX6_count_140 : Cond.fieldLink RX6 140 "SeriesMarksModel" "askings" "I" ∈ wsX6_count := by decide +kernel
set_option maxHeartbeats 4000000 in
set_option maxRecDepth 100000 in
theorem c_X6_count (l : Launch) (E : gE) (zw : va_W) {ad : Nat → Nat} {g : Nat → Int32} {ar : Nat → Nat → Int32} (hM : mAt zw (mcl E ad g ar)) {tk ns np na : Nat} (hI : MI g ar tk ns np na) (x : Int32) : CtI l yX6_count wsX6_count ({ frames := 0, cells := 0, slots := 0, locals := 0 }) E [.ref (ad 0), .int x] zw (fun r w1 => zw = w1 ∧ r = if x = 0 then g 0 else if x = 1 then g 3 else if x = 2 then g 10 else if x = 3 then g 17 else if x = 4 then cnI (fun m => decide (¬ ar 1 (6 * tk + m) = 0)) 6 else (-2)) 0 0 := by
  refine Ct.of (cc := cX6_count) (nL := 4) (ret := (some .int)) (by decide) rfl (Nat.le_of_ble_eq_true rfl) ?_
  intro p e s m args below meth c C hr hnm
  refine v_eqlv (lv9 := [(0, .ref (ad 0)), (1, .int x)]) rfl ?_
  refine v_iconst (v := 0) C dX6_count_0 (by decide) ?_
  refine v_istore_n C dX6_count_1 rfl (by decide) rfl ?_
  refine v_iload_n C dX6_count_2 rfl rfl ?_
  by_cases e0 : x = 0
  · subst e0
    refine v_tableIn (tgt := 36) C dX6_count_3 (by decide) (by decide) rfl (by decide) ?_
    refine v_aload_n C dX6_count_36 rfl rfl ?_
    refine vm_get (v := .int (g 0)) C hM inX6_count_X6 0 (by decide) kwX6_count_65 rfl rfl dX6_count_37 ?_
    exact v_iret C hr dX6_count_40 (Nat.le_refl _) (Nat.le_refl _) ⟨_, rfl, ⟨rfl, by simp [*]⟩⟩
  · skip
    by_cases e1 : x = 1
    · subst e1
      refine v_tableIn (tgt := 41) C dX6_count_3 (by decide) (by decide) rfl (by decide) ?_
      refine v_aload_n C dX6_count_41 rfl rfl ?_
      refine vm_get (v := .int (g 3)) C hM inX6_count_X6 3 (by decide) kwX6_count_81 rfl rfl dX6_count_42 ?_
      exact v_iret C hr dX6_count_45 (Nat.le_refl _) (Nat.le_refl _) ⟨_, rfl, ⟨rfl, by simp [*]⟩⟩
    · skip
      by_cases e2 : x = 2
      · subst e2
        refine v_tableIn (tgt := 46) C dX6_count_3 (by decide) (by decide) rfl (by decide) ?_
        refine v_aload_n C dX6_count_46 rfl rfl ?_
        refine vm_get (v := .int (g 10)) C hM inX6_count_X6 10 (by decide) kwX6_count_94 rfl rfl dX6_count_47 ?_
        exact v_iret C hr dX6_count_50 (Nat.le_refl _) (Nat.le_refl _) ⟨_, rfl, ⟨rfl, by simp [*]⟩⟩
      · skip
        by_cases e3 : x = 3
        · subst e3
          refine v_tableIn (tgt := 51) C dX6_count_3 (by decide) (by decide) rfl (by decide) ?_
          refine v_aload_n C dX6_count_51 rfl rfl ?_
          refine vm_get (v := .int (g 17)) C hM inX6_count_X6 17 (by decide) kwX6_count_140 rfl rfl dX6_count_52 ?_
          exact v_iret C hr dX6_count_55 (Nat.le_refl _) (Nat.le_refl _) ⟨_, rfl, ⟨rfl, by simp [*]⟩⟩
        · skip
          by_cases e4 : x = 4
          · subst e4
            refine v_tableIn (tgt := 56) C dX6_count_3 (by decide) (by decide) rfl (by decide) ?_
            refine v_iconst (v := 0) C dX6_count_56 (by decide) ?_
            refine v_tov nI_0.symm ?_
            refine v_istore_n C dX6_count_57 rfl (by decide) rfl ?_
            refine lp_X6_count C hM hI ?_ 6 0 rfl
            refine v_iload_n C dX6_count_95 rfl rfl ?_
            exact v_iret C hr dX6_count_96 (Nat.le_refl _) (Nat.le_refl _) ⟨_, rfl, ⟨rfl, by simp [*]⟩⟩
          · skip
            refine v_tableOut (tgt := 97) C dX6_count_3 (by have h0 := mt (fa_eq x 0).mpr e0; have h1 := mt (fa_eq x 1).mpr e1; have h2 := mt (fa_eq x 2).mpr e2; have h3 := mt (fa_eq x 3).mpr e3; have h4 := mt (fa_eq x 4).mpr e4; rw [show (0 : Int32).toInt = 0 from rfl] at h0; rw [show (1 : Int32).toInt = 1 from rfl] at h1; rw [show (2 : Int32).toInt = 2 from rfl] at h2; rw [show (3 : Int32).toInt = 3 from rfl] at h3; rw [show (4 : Int32).toInt = 4 from rfl] at h4; omega) (by decide) ?_
            refine v_bipush (v := (-2)) C dX6_count_97 (by decide) ?_
            exact v_iret C hr dX6_count_99 (Nat.le_refl _) (Nat.le_refl _) ⟨_, rfl, ⟨rfl, by simp [*]⟩⟩
theorem inX6_answer_X6 : ∀ x ∈ wsX60, x ∈ wsX6_answer := by decide +kernel
theorem kwX6_answer_94 : Cond.fieldLink RX6 94 "SeriesMarksModel" "samples" "I" ∈ wsX6_answer := by decide +kernel
theorem kwX6_answer_38 : Cond.fieldLink RX6 38 "SeriesMarksModel" "at" "[I" ∈ wsX6_answer := by decide +kernel
theorem kwX6_answer_17 : Cond.fieldLink RX6 17 "SeriesMarksModel" "name" "[I" ∈ wsX6_answer := by decide +kernel
theorem kwX6_answer_35 : Cond.fieldLink RX6 35 "SeriesMarksModel" "of" "[I" ∈ wsX6_answer := by decide +kernel
theorem kwX6_answer_41 : Cond.fieldLink RX6 41 "SeriesMarksModel" "grown" "[I" ∈ wsX6_answer := by decide +kernel
set_option maxHeartbeats 4000000 in
set_option maxRecDepth 100000 in
theorem lp_X6_answer {p : Program} {l : Launch} {e : Env} {s : State} {m : MethodId} {args : Array Value} {below : List Frame} {meth : Method} {c : Code} {Q : State → Prop} {E : gE} {zw : va_W} (C : gC p s m args meth c E cX6_answer 9 wsX6_answer yX6_answer.cls) {ad : Nat → Nat} {g : Nat → Int32} {ar : Nat → Nat → Int32} (hM : mAt zw (mcl E ad g ar)) {tk ns np na : Nat} (hI : MI g ar tk ns np na) {a ky f t : Int32} (hw1 : 0 ≤ a.toInt) (hw2 : a.toInt < na) (hK : V p l e ({ frames := 2, cells := 0, slots := 0, locals := 47 }) s m args below meth c E 9 zw 0 0 Q 146 [(0, .ref (ad 0)), (1, .int a), (2, .int ky), (3, .int f), (4, .int t), (5, .long (smL (fun j => inSp (ar 12) f t j && decide (woI (ar 4 (ar 11 j).toNatClampNeg) (63 &&& (ar 18 a.toNatClampNeg ^^^ (-1))) 6 = ky)) (ar 13) np)), (7, .int (nI np))] []) : ∀ n i : Nat, i + n = np → V p l e ({ frames := 2, cells := 0, slots := 0, locals := 47 }) s m args below meth c E 9 zw 0 0 Q 58 [(0, .ref (ad 0)), (1, .int a), (2, .int ky), (3, .int f), (4, .int t), (5, .long (smL (fun j => inSp (ar 12) f t j && decide (woI (ar 4 (ar 11 j).toNatClampNeg) (63 &&& (ar 18 a.toNatClampNeg ^^^ (-1))) 6 = ky)) (ar 13) i)), (7, .int (nI i))] [] := by
  intro n
  induction n with
  | zero =>
    intro i hi
    obtain rfl : i = np := by omega
    refine v_iload C dX6_answer_58 rfl ?_
    refine v_aload_n C dX6_answer_60 rfl rfl ?_
    refine vm_get (v := .int (g 10)) C hM inX6_answer_X6 10 (by decide) kwX6_answer_94 rfl rfl dX6_answer_61 ?_
    refine v_icmp_ge (tgt := 146) C dX6_answer_64 (by decide) (fun c64 => ?_) (fun c64 => absurd (by rw [hI.2.2.1.1]; exact nI_le (Nat.le_refl _) (by have := hI.sam.2; omega)) c64)
    exact hK
  | succ n ih =>
    intro i hi
    refine v_iload C dX6_answer_58 rfl ?_
    refine v_aload_n C dX6_answer_60 rfl rfl ?_
    refine vm_get (v := .int (g 10)) C hM inX6_answer_X6 10 (by decide) kwX6_answer_94 rfl rfl dX6_answer_61 ?_
    refine v_icmp_ge (tgt := 146) C dX6_answer_64 (by decide) (fun c64 => absurd c64 (by rw [hI.2.2.1.1]; exact nI_ge (by omega) (by have := hI.sam.2; omega))) (fun c64 => ?_)
    refine v_aload_n C dX6_answer_67 rfl rfl ?_
    refine vm_get (v := .ref (ad 12)) C hM inX6_answer_X6 12 (by decide) kwX6_answer_38 rfl rfl dX6_answer_68 ?_
    refine v_iload C dX6_answer_71 rfl ?_
    refine vm_iald (f := ar 12) C hM 10 rfl (vp_in_nI (by have := hI.sam.2; omega) (by decide)) dX6_answer_73 ?_
    rw [nI_clamp (show i < 2 ^ 31 by have := hI.sam.2; omega)]
    refine v_iload_n C dX6_answer_74 rfl rfl ?_
    refine v_at (pc9 := 75) rfl ?_
    refine v_icmp_lt (tgt := 115) C dX6_answer_75 (by decide) (fun c75 => ?_) (fun c75 => ?_)
    · have h9 : (fun j => inSp (ar 12) f t j && decide (woI (ar 4 (ar 11 j).toNatClampNeg) (63 &&& (ar 18 a.toNatClampNeg ^^^ (-1))) 6 = ky)) i = false := by simp [inSp_lt c75]
      refine v_iconst (v := 0) C dX6_answer_115 (by decide) ?_
      refine v_istore C dX6_answer_116 (by decide) rfl ?_
      refine v_lload C dX6_answer_118 rfl ?_
      refine v_iload C dX6_answer_120 rfl ?_
      refine v_if_eq (tgt := 136) C dX6_answer_122 (by decide) (fun c122 => ?_) (fun c122 => absurd rfl c122)
      refine v_lconst (v := 0) C dX6_answer_136 (by decide) ?_
      refine v_ladd C dX6_answer_137 ?_
      refine v_tovl (y := smL (fun j => inSp (ar 12) f t j && decide (woI (ar 4 (ar 11 j).toNatClampNeg) (63 &&& (ar 18 a.toNatClampNeg ^^^ (-1))) 6 = ky)) (ar 13) (i + 1)) (by first | exact (smL_t h9).symm | exact (smL_f h9).symm) ?_
      refine v_lstore C dX6_answer_138 (by decide) rfl ?_
      refine v_iincN C dX6_answer_140 rfl (by decide) rfl ?_
      refine v_goto (tgt := 58) C dX6_answer_143 (by decide) ?_
      refine v_pick (lv9 := [(0, .ref (ad 0)), (1, .int a), (2, .int ky), (3, .int f), (4, .int t), (5, .long (smL (fun j => inSp (ar 12) f t j && decide (woI (ar 4 (ar 11 j).toNatClampNeg) (63 &&& (ar 18 a.toNatClampNeg ^^^ (-1))) 6 = ky)) (ar 13) (i + 1))), (7, .int (nI (i + 1)))]) ⟨rfl, rfl, rfl, rfl, rfl, rfl, rfl, trivial⟩ ?_
      exact ih (i + 1) (by omega)
    · refine v_aload_n C dX6_answer_78 rfl rfl ?_
      refine vm_get (v := .ref (ad 12)) C hM inX6_answer_X6 12 (by decide) kwX6_answer_38 rfl rfl dX6_answer_79 ?_
      refine v_iload C dX6_answer_82 rfl ?_
      refine vm_iald (f := ar 12) C hM 10 rfl (vp_in_nI (by have := hI.sam.2; omega) (by decide)) dX6_answer_84 ?_
      rw [nI_clamp (show i < 2 ^ 31 by have := hI.sam.2; omega)]
      refine v_iload C dX6_answer_85 rfl ?_
      refine v_icmp_gt (tgt := 115) C dX6_answer_87 (by decide) (fun c87 => ?_) (fun c87 => ?_)
      · have h9 : (fun j => inSp (ar 12) f t j && decide (woI (ar 4 (ar 11 j).toNatClampNeg) (63 &&& (ar 18 a.toNatClampNeg ^^^ (-1))) 6 = ky)) i = false := by simp [inSp_gt c87]
        refine v_iconst (v := 0) C dX6_answer_115 (by decide) ?_
        refine v_istore C dX6_answer_116 (by decide) rfl ?_
        refine v_lload C dX6_answer_118 rfl ?_
        refine v_iload C dX6_answer_120 rfl ?_
        refine v_if_eq (tgt := 136) C dX6_answer_122 (by decide) (fun c122 => ?_) (fun c122 => absurd rfl c122)
        refine v_lconst (v := 0) C dX6_answer_136 (by decide) ?_
        refine v_ladd C dX6_answer_137 ?_
        refine v_tovl (y := smL (fun j => inSp (ar 12) f t j && decide (woI (ar 4 (ar 11 j).toNatClampNeg) (63 &&& (ar 18 a.toNatClampNeg ^^^ (-1))) 6 = ky)) (ar 13) (i + 1)) (by first | exact (smL_t h9).symm | exact (smL_f h9).symm) ?_
        refine v_lstore C dX6_answer_138 (by decide) rfl ?_
        refine v_iincN C dX6_answer_140 rfl (by decide) rfl ?_
        refine v_goto (tgt := 58) C dX6_answer_143 (by decide) ?_
        refine v_pick (lv9 := [(0, .ref (ad 0)), (1, .int a), (2, .int ky), (3, .int f), (4, .int t), (5, .long (smL (fun j => inSp (ar 12) f t j && decide (woI (ar 4 (ar 11 j).toNatClampNeg) (63 &&& (ar 18 a.toNatClampNeg ^^^ (-1))) 6 = ky)) (ar 13) (i + 1))), (7, .int (nI (i + 1)))]) ⟨rfl, rfl, rfl, rfl, rfl, rfl, rfl, trivial⟩ ?_
        exact ih (i + 1) (by omega)
      · obtain ⟨j0, hj0, ho⟩ := hI.of i (by omega)
        have hs9 := hI.ser.2
        refine v_aload_n C dX6_answer_90 rfl rfl ?_
        refine v_iload_n C dX6_answer_91 rfl rfl ?_
        refine v_aload_n C dX6_answer_92 rfl rfl ?_
        refine vm_get (v := .ref (ad 4)) C hM inX6_answer_X6 4 (by decide) kwX6_answer_17 rfl rfl dX6_answer_93 ?_
        refine v_aload_n C dX6_answer_96 rfl rfl ?_
        refine vm_get (v := .ref (ad 11)) C hM inX6_answer_X6 11 (by decide) kwX6_answer_35 rfl rfl dX6_answer_97 ?_
        refine v_iload C dX6_answer_100 rfl ?_
        refine vm_iald (f := ar 11) C hM 9 rfl (vp_in_nI (by have := hI.sam.2; omega) (by decide)) dX6_answer_102 ?_
        rw [nI_clamp (show i < 2 ^ 31 by have := hI.sam.2; omega)]
        rw [ho]
        refine vm_iald (f := ar 4) C hM 3 rfl (vp_in_nI (by omega) (by decide)) dX6_answer_103 ?_
        refine v_at (pc9 := 104) rfl ?_
        rw [nI_clamp (show j0 < 2 ^ 31 by omega)]
        refine v_callVi C (c_X6_keyOf l E zw hM hI _ _ hw1 hw2) (cwV 2 C.1.2.2.2.2 gX6_answer_X6_keyOf rfl rfl rfl (by decide +kernel) ⟨by decide, by decide⟩) 12 7 (hM 0 _ rfl) rfl rfl rfl (Nat.le_of_ble_eq_true rfl) dX6_answer_104 ⟨Nat.le_of_ble_eq_true rfl, Nat.le_of_ble_eq_true rfl⟩ (fun r w1 hp9 => ?_)
        obtain ⟨rfl, hr9⟩ := hp9
        rw [hr9]
        clear hr9
        refine v_iload_n C dX6_answer_107 rfl rfl ?_
        refine v_icmp_ne (tgt := 115) C dX6_answer_108 (by decide) (fun c108 => ?_) (fun c108 => ?_)
        · have h9 : (fun j => inSp (ar 12) f t j && decide (woI (ar 4 (ar 11 j).toNatClampNeg) (63 &&& (ar 18 a.toNatClampNeg ^^^ (-1))) 6 = ky)) i = false := by
            show (inSp (ar 12) f t i && decide (woI (ar 4 (ar 11 i).toNatClampNeg) (63 &&& (ar 18 a.toNatClampNeg ^^^ (-1))) 6 = ky)) = false
            rw [ho, nI_clamp (show j0 < 2 ^ 31 by omega), decide_eq_false c108, Bool.and_false]
          refine v_iconst (v := 0) C dX6_answer_115 (by decide) ?_
          refine v_istore C dX6_answer_116 (by decide) rfl ?_
          refine v_lload C dX6_answer_118 rfl ?_
          refine v_iload C dX6_answer_120 rfl ?_
          refine v_if_eq (tgt := 136) C dX6_answer_122 (by decide) (fun c122 => ?_) (fun c122 => absurd rfl c122)
          refine v_lconst (v := 0) C dX6_answer_136 (by decide) ?_
          refine v_ladd C dX6_answer_137 ?_
          refine v_tovl (y := smL (fun j => inSp (ar 12) f t j && decide (woI (ar 4 (ar 11 j).toNatClampNeg) (63 &&& (ar 18 a.toNatClampNeg ^^^ (-1))) 6 = ky)) (ar 13) (i + 1)) (by first | exact (smL_t h9).symm | exact (smL_f h9).symm) ?_
          refine v_lstore C dX6_answer_138 (by decide) rfl ?_
          refine v_iincN C dX6_answer_140 rfl (by decide) rfl ?_
          refine v_goto (tgt := 58) C dX6_answer_143 (by decide) ?_
          refine v_pick (lv9 := [(0, .ref (ad 0)), (1, .int a), (2, .int ky), (3, .int f), (4, .int t), (5, .long (smL (fun j => inSp (ar 12) f t j && decide (woI (ar 4 (ar 11 j).toNatClampNeg) (63 &&& (ar 18 a.toNatClampNeg ^^^ (-1))) 6 = ky)) (ar 13) (i + 1))), (7, .int (nI (i + 1)))]) ⟨rfl, rfl, rfl, rfl, rfl, rfl, rfl, trivial⟩ ?_
          exact ih (i + 1) (by omega)
        · have h9 : (fun j => inSp (ar 12) f t j && decide (woI (ar 4 (ar 11 j).toNatClampNeg) (63 &&& (ar 18 a.toNatClampNeg ^^^ (-1))) 6 = ky)) i = true := by
            show (inSp (ar 12) f t i && decide (woI (ar 4 (ar 11 i).toNatClampNeg) (63 &&& (ar 18 a.toNatClampNeg ^^^ (-1))) 6 = ky)) = true
            rw [ho, nI_clamp (show j0 < 2 ^ 31 by omega), decide_eq_true c108, inSp_in c75 c87]
            rfl
          refine v_iconst (v := 1) C dX6_answer_111 (by decide) ?_
          refine v_goto (tgt := 116) C dX6_answer_112 (by decide) ?_
          refine v_istore C dX6_answer_116 (by decide) rfl ?_
          refine v_lload C dX6_answer_118 rfl ?_
          refine v_iload C dX6_answer_120 rfl ?_
          refine v_if_eq (tgt := 136) C dX6_answer_122 (by decide) (fun c122 => absurd c122 (by decide)) (fun c122 => ?_)
          refine v_aload_n C dX6_answer_125 rfl rfl ?_
          refine vm_get (v := .ref (ad 13)) C hM inX6_answer_X6 13 (by decide) kwX6_answer_41 rfl rfl dX6_answer_126 ?_
          refine v_iload C dX6_answer_129 rfl ?_
          refine vm_iald (f := ar 13) C hM 11 rfl (vp_in_nI (by have := hI.sam.2; omega) (by decide)) dX6_answer_131 ?_
          rw [nI_clamp (show i < 2 ^ 31 by have := hI.sam.2; omega)]
          refine v_i2l C dX6_answer_132 rfl ?_
          refine v_goto (tgt := 137) C dX6_answer_133 (by decide) ?_
          refine v_ladd C dX6_answer_137 ?_
          refine v_tovl (y := smL (fun j => inSp (ar 12) f t j && decide (woI (ar 4 (ar 11 j).toNatClampNeg) (63 &&& (ar 18 a.toNatClampNeg ^^^ (-1))) 6 = ky)) (ar 13) (i + 1)) (by first | exact (smL_t h9).symm | exact (smL_f h9).symm) ?_
          refine v_lstore C dX6_answer_138 (by decide) rfl ?_
          refine v_iincN C dX6_answer_140 rfl (by decide) rfl ?_
          refine v_goto (tgt := 58) C dX6_answer_143 (by decide) ?_
          refine v_pick (lv9 := [(0, .ref (ad 0)), (1, .int a), (2, .int ky), (3, .int f), (4, .int t), (5, .long (smL (fun j => inSp (ar 12) f t j && decide (woI (ar 4 (ar 11 j).toNatClampNeg) (63 &&& (ar 18 a.toNatClampNeg ^^^ (-1))) 6 = ky)) (ar 13) (i + 1))), (7, .int (nI (i + 1)))]) ⟨rfl, rfl, rfl, rfl, rfl, rfl, rfl, trivial⟩ ?_
          exact ih (i + 1) (by omega)
theorem kwX6_answer_c107 : Cond.constantLong RX6 107 (-2) ∈ wsX6_answer := by decide +kernel
theorem kwX6_answer_c97 : Cond.constantLong RX6 97 (-1) ∈ wsX6_answer := by decide +kernel
set_option maxHeartbeats 4000000 in
set_option maxRecDepth 100000 in
theorem c_X6_answer (l : Launch) (E : gE) (zw : va_W) {ad : Nat → Nat} {g : Nat → Int32} {ar : Nat → Nat → Int32} (hM : mAt zw (mcl E ad g ar)) {tk ns np na : Nat} (hI : MI g ar tk ns np na) (a ky f t : Int32) : CtL l yX6_answer wsX6_answer ({ frames := 2, cells := 0, slots := 0, locals := 47 }) E [.ref (ad 0), .int a, .int ky, .int f, .int t] zw (fun r w1 => zw = w1 ∧ r = if 0 ≤ a.toInt ∧ a.toInt < na then (if (0 ≤ ky.toInt ∧ ky.toInt ≤ 262143) ∧ woI ky (63 &&& (ar 18 a.toNatClampNeg ^^^ (-1))) 6 = ky ∧ (ar 19 a.toNatClampNeg = (-9) ∨ dgt ky (ar 19 a.toNatClampNeg) = ar 20 a.toNatClampNeg) ∧ (0 ≤ t.toInt ∧ t.toInt ≤ (g 0).toInt ∧ 0 ≤ f.toInt ∧ f.toInt ≤ t.toInt) then smL (fun j => inSp (ar 12) f t j && decide (woI (ar 4 (ar 11 j).toNatClampNeg) (63 &&& (ar 18 a.toNatClampNeg ^^^ (-1))) 6 = ky)) (ar 13) np else (-2)) else (-1)) 0 0 := by
  refine Ct.of (cc := cX6_answer) (nL := 9) (ret := (some .long)) (by decide) rfl (Nat.le_of_ble_eq_true rfl) ?_
  intro p e s m args below meth c C hr hnm
  refine v_eqlv (lv9 := [(0, .ref (ad 0)), (1, .int a), (2, .int ky), (3, .int f), (4, .int t)]) rfl ?_
  refine v_aload_n C dX6_answer_0 rfl rfl ?_
  refine v_iload_n C dX6_answer_1 rfl rfl ?_
  refine v_callVi C (c_X6_isAsking l E zw hM hI _) (cwV 1 C.1.2.2.2.2 gX6_answer_X6_isAsking rfl rfl rfl (by decide +kernel) ⟨by decide, by decide⟩) 12 7 (hM 0 _ rfl) rfl rfl rfl (Nat.le_of_ble_eq_true rfl) dX6_answer_2 ⟨Nat.le_of_ble_eq_true rfl, Nat.le_of_ble_eq_true rfl⟩ (fun r w1 hp => ?_)
  obtain ⟨rfl, rfl⟩ := hp
  refine v_if_ne (tgt := 12) C dX6_answer_5 (by decide) (fun c5 => ?_) (fun c5 => ?_)
  · have c5 := b01_n c5
    refine v_iload_n C dX6_answer_12 rfl rfl ?_
    refine v_callSi C (c_X6_isName l E zw _) (va_cwS 1 C.1.2.2.2.2 gX6_answer_X6_isName rfl rfl rfl (by decide +kernel) ⟨by decide, by decide⟩) rfl rfl (Nat.le_of_ble_eq_true rfl) dX6_answer_13 ⟨Nat.le_of_ble_eq_true rfl, Nat.le_of_ble_eq_true rfl⟩ (fun r w1 hp => ?_)
    obtain ⟨rfl, rfl⟩ := hp
    refine v_if_eq (tgt := 48) C dX6_answer_16 (by decide) (fun c16 => ?_) (fun c16 => ?_)
    · have c16 := b01_0 c16
      refine v_ldc2 C kwX6_answer_c107 dX6_answer_48 ?_
      exact v_lret C hr dX6_answer_51 (Nat.le_refl _) (Nat.le_refl _) ⟨_, rfl, ⟨rfl, by first | (rw [if_neg c5]; done) | (rw [if_pos c5, if_pos ⟨c16, c26, c35, c45⟩]; done) | (rw [if_pos c5, if_neg (fun h => c16 h.1)]; done) | (rw [if_pos c5, if_neg (fun h => c26 h.2.1)]; done) | (rw [if_pos c5, if_neg (fun h => c35 h.2.2.1)]; done) | (rw [if_pos c5, if_neg (fun h => c45 h.2.2.2)]; done)⟩⟩
    · have c16 := b01_n c16
      refine v_aload_n C dX6_answer_19 rfl rfl ?_
      refine v_iload_n C dX6_answer_20 rfl rfl ?_
      refine v_iload_n C dX6_answer_21 rfl rfl ?_
      refine v_callVi C (c_X6_keyOf l E zw hM hI _ _ c5.1 c5.2) (cwV 2 C.1.2.2.2.2 gX6_answer_X6_keyOf rfl rfl rfl (by decide +kernel) ⟨by decide, by decide⟩) 12 7 (hM 0 _ rfl) rfl rfl rfl (Nat.le_of_ble_eq_true rfl) dX6_answer_22 ⟨Nat.le_of_ble_eq_true rfl, Nat.le_of_ble_eq_true rfl⟩ (fun r w1 hp9 => ?_)
      obtain ⟨rfl, hr9⟩ := hp9
      rw [hr9]
      clear hr9
      refine v_iload_n C dX6_answer_25 rfl rfl ?_
      refine v_icmp_ne (tgt := 48) C dX6_answer_26 (by decide) (fun c26 => ?_) (fun c26 => ?_)
      · refine v_ldc2 C kwX6_answer_c107 dX6_answer_48 ?_
        exact v_lret C hr dX6_answer_51 (Nat.le_refl _) (Nat.le_refl _) ⟨_, rfl, ⟨rfl, by first | (rw [if_neg c5]; done) | (rw [if_pos c5, if_pos ⟨c16, c26, c35, c45⟩]; done) | (rw [if_pos c5, if_neg (fun h => c16 h.1)]; done) | (rw [if_pos c5, if_neg (fun h => c26 h.2.1)]; done) | (rw [if_pos c5, if_neg (fun h => c35 h.2.2.1)]; done) | (rw [if_pos c5, if_neg (fun h => c45 h.2.2.2)]; done)⟩⟩
      · refine v_aload_n C dX6_answer_29 rfl rfl ?_
        refine v_iload_n C dX6_answer_30 rfl rfl ?_
        refine v_iload_n C dX6_answer_31 rfl rfl ?_
        refine v_callVi C (c_X6_isWanted l E zw hM hI _ _ c5.1 c5.2) (cwV 2 C.1.2.2.2.2 gX6_answer_X6_isWanted rfl rfl rfl (by decide +kernel) ⟨by decide, by decide⟩) 12 7 (hM 0 _ rfl) rfl rfl rfl (Nat.le_of_ble_eq_true rfl) dX6_answer_32 ⟨Nat.le_of_ble_eq_true rfl, Nat.le_of_ble_eq_true rfl⟩ (fun r w1 hp9 => ?_)
        obtain ⟨rfl, hr9⟩ := hp9
        rw [hr9]
        clear hr9
        refine v_if_eq (tgt := 48) C dX6_answer_35 (by decide) (fun c35 => ?_) (fun c35 => ?_)
        · have c35 := b01_0 c35
          refine v_ldc2 C kwX6_answer_c107 dX6_answer_48 ?_
          exact v_lret C hr dX6_answer_51 (Nat.le_refl _) (Nat.le_refl _) ⟨_, rfl, ⟨rfl, by first | (rw [if_neg c5]; done) | (rw [if_pos c5, if_pos ⟨c16, c26, c35, c45⟩]; done) | (rw [if_pos c5, if_neg (fun h => c16 h.1)]; done) | (rw [if_pos c5, if_neg (fun h => c26 h.2.1)]; done) | (rw [if_pos c5, if_neg (fun h => c35 h.2.2.1)]; done) | (rw [if_pos c5, if_neg (fun h => c45 h.2.2.2)]; done)⟩⟩
        · have c35 := b01_n c35
          refine v_aload_n C dX6_answer_38 rfl rfl ?_
          refine v_iload_n C dX6_answer_39 rfl rfl ?_
          refine v_iload C dX6_answer_40 rfl ?_
          refine v_callVi C (c_X6_isSpan l E zw hM _ _) (cwV 2 C.1.2.2.2.2 gX6_answer_X6_isSpan rfl rfl rfl (by decide +kernel) ⟨by decide, by decide⟩) 12 7 (hM 0 _ rfl) rfl rfl rfl (Nat.le_of_ble_eq_true rfl) dX6_answer_42 ⟨Nat.le_of_ble_eq_true rfl, Nat.le_of_ble_eq_true rfl⟩ (fun r w1 hp => ?_)
          obtain ⟨rfl, rfl⟩ := hp
          refine v_if_ne (tgt := 52) C dX6_answer_45 (by decide) (fun c45 => ?_) (fun c45 => ?_)
          · have c45 := b01_n c45
            refine v_lconst (v := 0) C dX6_answer_52 (by decide) ?_
            refine v_lstore C dX6_answer_53 (by decide) rfl ?_
            refine v_iconst (v := 0) C dX6_answer_55 (by decide) ?_
            refine v_tov nI_0.symm ?_
            refine v_istore C dX6_answer_56 (by decide) rfl ?_
            refine lp_X6_answer C hM hI c5.1 c5.2 ?_ np 0 (Nat.zero_add _)
            refine v_lload C dX6_answer_146 rfl ?_
            exact v_lret C hr dX6_answer_148 (Nat.le_refl _) (Nat.le_refl _) ⟨_, rfl, ⟨rfl, by first | (rw [if_neg c5]; done) | (rw [if_pos c5, if_pos ⟨c16, c26, c35, c45⟩]; done) | (rw [if_pos c5, if_neg (fun h => c16 h.1)]; done) | (rw [if_pos c5, if_neg (fun h => c26 h.2.1)]; done) | (rw [if_pos c5, if_neg (fun h => c35 h.2.2.1)]; done) | (rw [if_pos c5, if_neg (fun h => c45 h.2.2.2)]; done)⟩⟩
          · have c45 := b01_0 c45
            refine v_ldc2 C kwX6_answer_c107 dX6_answer_48 ?_
            exact v_lret C hr dX6_answer_51 (Nat.le_refl _) (Nat.le_refl _) ⟨_, rfl, ⟨rfl, by first | (rw [if_neg c5]; done) | (rw [if_pos c5, if_pos ⟨c16, c26, c35, c45⟩]; done) | (rw [if_pos c5, if_neg (fun h => c16 h.1)]; done) | (rw [if_pos c5, if_neg (fun h => c26 h.2.1)]; done) | (rw [if_pos c5, if_neg (fun h => c35 h.2.2.1)]; done) | (rw [if_pos c5, if_neg (fun h => c45 h.2.2.2)]; done)⟩⟩
  · have c5 := b01_0 c5
    refine v_ldc2 C kwX6_answer_c97 dX6_answer_8 ?_
    exact v_lret C hr dX6_answer_11 (Nat.le_refl _) (Nat.le_refl _) ⟨_, rfl, ⟨rfl, by first | (rw [if_neg c5]; done) | (rw [if_pos c5, if_pos ⟨c16, c26, c35, c45⟩]; done) | (rw [if_pos c5, if_neg (fun h => c16 h.1)]; done) | (rw [if_pos c5, if_neg (fun h => c26 h.2.1)]; done) | (rw [if_pos c5, if_neg (fun h => c35 h.2.2.1)]; done) | (rw [if_pos c5, if_neg (fun h => c45 h.2.2.2)]; done)⟩⟩
/-- whether z isn't 0 at one of the n ticks from t0 on -/
def anT (z : Nat → Int32) (t0 : Nat) : Nat → Int32
  | 0 => 0
  | n + 1 => if anT z t0 n = 0 then (if z (t0 + n) = 0 then 0 else 1) else 1
set_option maxHeartbeats 4000000 in
set_option maxRecDepth 100000 in
theorem lp_X6_works {p : Program} {l : Launch} {e : Env} {s : State} {m : MethodId} {args : Array Value} {below : List Frame} {meth : Method} {c : Code} {Q : State → Prop} {E : gE} {zw : va_W} (C : gC p s m args meth c E cX6_works 7 wsX6_works yX6_works.cls) {ad : Nat → Nat} {g : Nat → Int32} {ar : Nat → Nat → Int32} (hM : mAt zw (mcl E ad g ar)) {tk ns np na : Nat} (hI : MI g ar tk ns np na) {a : Int32} (hw1 : 0 ≤ a.toInt) (hw2 : a.toInt < na) {ff tt nn : Nat} (htt : tt ≤ 199) (hnn : ff + nn = tt + 1) (hK : V p l e ({ frames := 3, cells := 0, slots := 0, locals := 71 }) s m args below meth c E 7 zw 0 0 Q 74 [(0, .ref (ad 0)), (1, .int a), (2, .int (nI ff)), (3, .int (nI tt)), (4, .int (-9)), (5, .int (anT (fun t => fdA ar (ar 18 a.toNatClampNeg) t 48) ff nn)), (6, .int (nI (ff + nn)))] []) : ∀ n i : Nat, i + n = nn → V p l e ({ frames := 3, cells := 0, slots := 0, locals := 71 }) s m args below meth c E 7 zw 0 0 Q 40 [(0, .ref (ad 0)), (1, .int a), (2, .int (nI ff)), (3, .int (nI tt)), (4, .int (-9)), (5, .int (anT (fun t => fdA ar (ar 18 a.toNatClampNeg) t 48) ff i)), (6, .int (nI (ff + i)))] [] := by
  intro n
  induction n with
  | zero =>
    intro i hi
    obtain rfl : i = nn := by omega
    refine v_iload C dX6_works_40 rfl ?_
    refine v_iload_n C dX6_works_42 rfl rfl ?_
    refine v_icmp_gt (tgt := 74) C dX6_works_43 (by decide) (fun c43 => ?_) (fun c43 => absurd (nI_lt (by omega) (by omega)) c43)
    exact hK
  | succ n ih =>
    intro i hi
    refine v_iload C dX6_works_40 rfl ?_
    refine v_iload_n C dX6_works_42 rfl rfl ?_
    refine v_icmp_gt (tgt := 74) C dX6_works_43 (by decide) (fun c43 => absurd c43 (nI_nlt (by omega) (by omega))) (fun c43 => ?_)
    refine v_iload C dX6_works_46 rfl ?_
    refine v_if_ne (tgt := 61) C dX6_works_48 (by decide) (fun c48 => ?_) (fun c48 => ?_)
    · refine v_iconst (v := 1) C dX6_works_61 (by decide) ?_
      refine v_goto (tgt := 66) C dX6_works_62 (by decide) ?_
      refine v_tov (y := anT (fun t => fdA ar (ar 18 a.toNatClampNeg) t 48) ff (i + 1)) (by unfold anT; first | (rw [if_neg c48]; done) | (rw [if_pos c48, if_pos c58]; done) | (rw [if_pos c48, if_neg c58]; done)) ?_
      refine v_istore C dX6_works_66 (by decide) rfl ?_
      refine v_iincN C dX6_works_68 rfl (by decide) rfl ?_
      refine v_goto (tgt := 40) C dX6_works_71 (by decide) ?_
      exact ih (i + 1) (by omega)
    · refine v_aload_n C dX6_works_51 rfl rfl ?_
      refine v_iload_n C dX6_works_52 rfl rfl ?_
      refine v_iload C dX6_works_53 rfl ?_
      refine v_callVi C (c_X6_isFolded l E zw hM hI hw1 hw2 (tt := ff + i) (by omega)) (cwV 2 C.1.2.2.2.2 gX6_works_X6_isFolded rfl rfl rfl (by decide +kernel) ⟨by decide, by decide⟩) 12 7 (hM 0 _ rfl) rfl rfl rfl (Nat.le_of_ble_eq_true rfl) dX6_works_55 ⟨Nat.le_of_ble_eq_true rfl, Nat.le_of_ble_eq_true rfl⟩ (fun r w1 hp9 => ?_)
      obtain ⟨rfl, hr9⟩ := hp9
      rw [hr9]
      clear hr9
      refine v_if_eq (tgt := 65) C dX6_works_58 (by decide) (fun c58 => ?_) (fun c58 => ?_)
      · refine v_iconst (v := 0) C dX6_works_65 (by decide) ?_
        refine v_tov (y := anT (fun t => fdA ar (ar 18 a.toNatClampNeg) t 48) ff (i + 1)) (by unfold anT; first | (rw [if_neg c48]; done) | (rw [if_pos c48, if_pos c58]; done) | (rw [if_pos c48, if_neg c58]; done)) ?_
        refine v_istore C dX6_works_66 (by decide) rfl ?_
        refine v_iincN C dX6_works_68 rfl (by decide) rfl ?_
        refine v_goto (tgt := 40) C dX6_works_71 (by decide) ?_
        exact ih (i + 1) (by omega)
      · refine v_iconst (v := 1) C dX6_works_61 (by decide) ?_
        refine v_goto (tgt := 66) C dX6_works_62 (by decide) ?_
        refine v_tov (y := anT (fun t => fdA ar (ar 18 a.toNatClampNeg) t 48) ff (i + 1)) (by unfold anT; first | (rw [if_neg c48]; done) | (rw [if_pos c48, if_pos c58]; done) | (rw [if_pos c48, if_neg c58]; done)) ?_
        refine v_istore C dX6_works_66 (by decide) rfl ?_
        refine v_iincN C dX6_works_68 rfl (by decide) rfl ?_
        refine v_goto (tgt := 40) C dX6_works_71 (by decide) ?_
        exact ih (i + 1) (by omega)
theorem fiT_or (z : Nat → Int32) : ∀ n t, t + n < 2 ^ 31 → fiT z n t = (-9) ∨ ∃ j, j < 2 ^ 31 ∧ fiT z n t = nI j
  | 0, _, _ => Or.inl rfl
  | n + 1, t, h => by
    unfold fiT
    split
    · exact fiT_or z n (t + 1) (by omega)
    · exact Or.inr ⟨t, by omega, rfl⟩
theorem fiT_ne {z : Nat → Int32} {n t : Nat} (h : t + n < 2 ^ 31) : ¬ fiT z n t = (-1) ∧ ¬ fiT z n t = (-2) := by
  rcases fiT_or z n t h with e | ⟨j, hj, e⟩
  · rw [e]; exact ⟨by decide, by decide⟩
  · rw [e]
    refine ⟨fun q => ?_, fun q => ?_⟩
    · have := congrArg Int32.toInt q; rw [nI_toInt hj, ti_m1] at this; omega
    · have := congrArg Int32.toInt q; rw [nI_toInt hj, ti_m2] at this; omega
set_option maxHeartbeats 4000000 in
set_option maxRecDepth 100000 in
theorem c_X6_works (l : Launch) (E : gE) (zw : va_W) {ad : Nat → Nat} {g : Nat → Int32} {ar : Nat → Nat → Int32} (hM : mAt zw (mcl E ad g ar)) {tk ns np na : Nat} (hI : MI g ar tk ns np na) (a f t : Int32) : CtI l yX6_works wsX6_works ({ frames := 3, cells := 0, slots := 0, locals := 71 }) E [.ref (ad 0), .int a, .int f, .int t] zw (fun r w1 => zw = w1 ∧ r = if 0 ≤ a.toInt ∧ a.toInt < na then (if 0 ≤ t.toInt ∧ t.toInt ≤ (g 0).toInt ∧ 0 ≤ f.toInt ∧ f.toInt ≤ t.toInt then (if fiT (fun t => lkA ar (ar 18 a.toNatClampNeg) t 6) (t.toNatClampNeg + 1 - f.toNatClampNeg) f.toNatClampNeg = (-9) then (if anT (fun t => fdA ar (ar 18 a.toNatClampNeg) t 48) f.toNatClampNeg (t.toNatClampNeg + 1 - f.toNatClampNeg) = 0 then 2 else 1) else 0) else (-2)) else (-1)) 0 0 := by
  refine Ct.of (cc := cX6_works) (nL := 7) (ret := (some .int)) (by decide) rfl (Nat.le_of_ble_eq_true rfl) ?_
  intro p e s m args below meth c C hr hnm
  refine v_eqlv (lv9 := [(0, .ref (ad 0)), (1, .int a), (2, .int f), (3, .int t)]) rfl ?_
  refine v_aload_n C dX6_works_0 rfl rfl ?_
  refine v_iload_n C dX6_works_1 rfl rfl ?_
  refine v_iload_n C dX6_works_2 rfl rfl ?_
  refine v_iload_n C dX6_works_3 rfl rfl ?_
  refine v_callVi C (c_X6_lacks l E zw hM hI _ _ _) (cwV 3 C.1.2.2.2.2 gX6_works_X6_lacks rfl rfl rfl (by decide +kernel) ⟨by decide, by decide⟩) 12 7 (hM 0 _ rfl) rfl rfl rfl (Nat.le_of_ble_eq_true rfl) dX6_works_4 ⟨Nat.le_of_ble_eq_true rfl, Nat.le_of_ble_eq_true rfl⟩ (fun r w1 hp9 => ?_)
  obtain ⟨rfl, hr9⟩ := hp9
  rw [hr9]
  clear hr9
  by_cases hA : 0 ≤ a.toInt ∧ a.toInt < na
  · by_cases hB : 0 ≤ t.toInt ∧ t.toInt ≤ (g 0).toInt ∧ 0 ≤ f.toInt ∧ f.toInt ≤ t.toInt
    · have ht9 := hI.tick
      obtain ⟨tt, htt, rfl⟩ : ∃ tt : Nat, tt ≤ 199 ∧ t = nI tt := ⟨t.toInt.toNat, by omega, nI_nat hB.1⟩
      have ht8 : (nI tt).toInt = tt := nI_toInt (by omega)
      obtain ⟨ff, hff, rfl⟩ : ∃ ff : Nat, ff ≤ tt ∧ f = nI ff := ⟨f.toInt.toNat, by omega, nI_nat hB.2.2.1⟩
      refine v_tov (y := fiT (fun t => lkA ar (ar 18 a.toNatClampNeg) t 6) (tt + 1 - ff) ff) (by rw [if_pos hA, if_pos hB, nI_clamp (show tt < 2 ^ 31 by omega), nI_clamp (show ff < 2 ^ 31 by omega)]) ?_
      have hne := fiT_ne (z := (fun t => lkA ar (ar 18 a.toNatClampNeg) t 6)) (n := tt + 1 - ff) (t := ff) (by omega)
      refine v_istore C dX6_works_7 (by decide) rfl ?_
      refine v_iload C dX6_works_9 rfl ?_
      refine v_iconst (v := (-1)) C dX6_works_11 (by decide) ?_
      refine v_icmp_eq (tgt := 22) C dX6_works_12 (by decide) (fun c12 => absurd c12 hne.1) (fun c12 => ?_)
      refine v_iload C dX6_works_15 rfl ?_
      refine v_bipush (v := (-2)) C dX6_works_17 (by decide) ?_
      refine v_icmp_ne (tgt := 25) C dX6_works_19 (by decide) (fun c19 => ?_) (fun c19 => absurd c19 hne.2)
      refine v_iload C dX6_works_25 rfl ?_
      refine v_bipush (v := (-9)) C dX6_works_27 (by decide) ?_
      refine v_at (pc9 := 29) rfl ?_
      refine v_icmp_eq (tgt := 34) C dX6_works_29 (by decide) (fun c29 => ?_) (fun c29 => ?_)
      · refine v_iconst (v := 0) C dX6_works_34 (by decide) ?_
        refine v_istore C dX6_works_35 (by decide) rfl ?_
        refine v_iload_n C dX6_works_37 rfl rfl ?_
        refine v_istore C dX6_works_38 (by decide) rfl ?_
        refine v_pick (lv9 := [(0, .ref (ad 0)), (1, .int a), (2, .int (nI ff)), (3, .int (nI tt)), (4, .int (-9)), (5, .int (anT (fun t => fdA ar (ar 18 a.toNatClampNeg) t 48) ff 0)), (6, .int (nI (ff + 0)))]) ⟨rfl, rfl, rfl, rfl, by rw [← c29]; rfl, rfl, rfl, trivial⟩ ?_
        refine lp_X6_works C hM hI hA.1 hA.2 htt (nn := tt + 1 - ff) (by omega) ?_ (tt + 1 - ff) 0 (Nat.zero_add _)
        refine v_iload C dX6_works_74 rfl ?_
        refine v_if_eq (tgt := 83) C dX6_works_76 (by decide) (fun c76 => ?_) (fun c76 => ?_)
        · refine v_iconst (v := 2) C dX6_works_83 (by decide) ?_
          exact v_iret C hr dX6_works_84 (Nat.le_refl _) (Nat.le_refl _) ⟨_, rfl, ⟨rfl, by rw [if_pos hA, if_pos hB, nI_clamp (show tt < 2 ^ 31 by omega), nI_clamp (show ff < 2 ^ 31 by omega)]; first | (rw [if_neg c29]; done) | (rw [if_pos c29, if_pos c76]; done) | (rw [if_pos c29, if_neg c76]; done)⟩⟩
        · refine v_iconst (v := 1) C dX6_works_79 (by decide) ?_
          refine v_goto (tgt := 84) C dX6_works_80 (by decide) ?_
          exact v_iret C hr dX6_works_84 (Nat.le_refl _) (Nat.le_refl _) ⟨_, rfl, ⟨rfl, by rw [if_pos hA, if_pos hB, nI_clamp (show tt < 2 ^ 31 by omega), nI_clamp (show ff < 2 ^ 31 by omega)]; first | (rw [if_neg c29]; done) | (rw [if_pos c29, if_pos c76]; done) | (rw [if_pos c29, if_neg c76]; done)⟩⟩
      · refine v_iconst (v := 0) C dX6_works_32 (by decide) ?_
        exact v_iret C hr dX6_works_33 (Nat.le_refl _) (Nat.le_refl _) ⟨_, rfl, ⟨rfl, by rw [if_pos hA, if_pos hB, nI_clamp (show tt < 2 ^ 31 by omega), nI_clamp (show ff < 2 ^ 31 by omega)]; first | (rw [if_neg c29]; done) | (rw [if_pos c29, if_pos c76]; done) | (rw [if_pos c29, if_neg c76]; done)⟩⟩
    · refine v_tov (y := -2) (by rw [if_pos hA, if_neg hB]) ?_
      refine v_istore C dX6_works_7 (by decide) rfl ?_
      refine v_iload C dX6_works_9 rfl ?_
      refine v_iconst (v := (-1)) C dX6_works_11 (by decide) ?_
      refine v_icmp_eq (tgt := 22) C dX6_works_12 (by decide) (fun c12 => absurd c12 (by decide)) (fun c12 => ?_)
      refine v_iload C dX6_works_15 rfl ?_
      refine v_bipush (v := (-2)) C dX6_works_17 (by decide) ?_
      refine v_icmp_ne (tgt := 25) C dX6_works_19 (by decide) (fun c19 => absurd c19 (fun h => h rfl)) (fun c19 => ?_)
      refine v_iload C dX6_works_22 rfl ?_
      exact v_iret C hr dX6_works_24 (Nat.le_refl _) (Nat.le_refl _) ⟨_, rfl, ⟨rfl, by rw [if_pos hA, if_neg hB]⟩⟩
  · refine v_tov (y := -1) (by rw [if_neg hA]) ?_
    refine v_istore C dX6_works_7 (by decide) rfl ?_
    refine v_iload C dX6_works_9 rfl ?_
    refine v_iconst (v := (-1)) C dX6_works_11 (by decide) ?_
    refine v_icmp_eq (tgt := 22) C dX6_works_12 (by decide) (fun c12 => ?_) (fun c12 => absurd rfl c12)
    refine v_iload C dX6_works_22 rfl ?_
    exact v_iret C hr dX6_works_24 (Nat.le_refl _) (Nat.le_refl _) ⟨_, rfl, ⟨rfl, by rw [if_neg hA]⟩⟩
