theorem cnI_t9 {p : Nat → Bool} {i : Nat} (h : p i = true) : cnI p (i + 1) = cnI p i + 1 := by simp [cnI, h]
theorem cnI_f9 {p : Nat → Bool} {i : Nat} (h : p i = false) : cnI p (i + 1) = cnI p i := by simp [cnI, h]
/-- how many names of a row are left without some marks -/
def uL (L : List Int32) (mk : Int32) : Int32 := nI (LN L (dgs (63 ^^^ mk) 6) L.length).length
set_option maxHeartbeats 4000000 in
set_option maxRecDepth 100000 in
theorem lp_X5_worst {p : Program} {l : Launch} {e : Env} {s : State} {m : MethodId} {args : Array Value} {below : List Frame} {meth : Method} {c : Code} {Q : State → Prop} {E : gE} {w0 : va_W} (C : gC p s m args meth c E cX5_worst 7 wsX5_worst yX5_worst.cls) {ca : Nat → Nat} {t0 : Int32} {ar : Nat → Nat → Int32} {dr ch : Nat → Int32} {ns np na : Nat} {qe : Nat → Nat} {pl : Nat → Nat → Nat} (hb : ns ≤ 120 ∧ np ≤ 2000 ∧ na ≤ 10) {f t : Int32} {L : List Int32} (hK : ∀ (zw : va_W) (L1 : List Int32), CF E ca zw t0 ar dr ch ns np na qe pl → wFr w0 zw → cS E ca zw 8 L → cS E ca zw 10 L1 → V p l e ({ frames := 5, cells := 0, slots := 0, locals := 111 }) s m args below meth c E 7 zw 0 0 Q 67 [(0, .ref (ca 0)), (1, .int f), (2, .int t), (3, .int (wB (fun m => uL L (1 <<< (nI m &&& 31))) 6)), (4, .int (wF (fun m => uL L (1 <<< (nI m &&& 31))) 6)), (5, .int (nI 6))] []) : ∀ n i : Nat, i + n = 6 → ∀ (zw : va_W) (L1 : List Int32), CF E ca zw t0 ar dr ch ns np na qe pl → wFr w0 zw → cS E ca zw 8 L → cS E ca zw 10 L1 → V p l e ({ frames := 5, cells := 0, slots := 0, locals := 111 }) s m args below meth c E 7 zw 0 0 Q 30 [(0, .ref (ca 0)), (1, .int f), (2, .int t), (3, .int (wB (fun m => uL L (1 <<< (nI m &&& 31))) i)), (4, .int (wF (fun m => uL L (1 <<< (nI m &&& 31))) i)), (5, .int (nI i))] [] := by
  intro n
  induction n with
  | zero =>
    intro i hi zw L1 hC hF hs hw
    obtain rfl : i = 6 := by omega
    obtain ⟨hX, h4, h5, h6, h7, hL1, hL2, hL3⟩ := id hC
    obtain ⟨fs1, hq1⟩ := hL1.cell
    obtain ⟨fs2, hq2⟩ := hL2.cell
    obtain ⟨fs3, hq3⟩ := hL3.cell
    refine v_iload C dX5_worst_30 rfl ?_
    refine v_bipush (v := 6) C dX5_worst_32 (by decide) ?_
    refine v_icmp_ge (tgt := 67) C dX5_worst_34 (by decide) (fun c34 => ?_) (fun c34 => absurd (by rw [fa_le, ti_6, nI_toInt (by omega)]; omega) c34)
    exact hK zw L1 hC hF hs hw
  | succ n ih =>
    intro i hi zw L1 hC hF hs hw
    obtain ⟨hX, h4, h5, h6, h7, hL1, hL2, hL3⟩ := id hC
    obtain ⟨fs1, hq1⟩ := hL1.cell
    obtain ⟨fs2, hq2⟩ := hL2.cell
    obtain ⟨fs3, hq3⟩ := hL3.cell
    refine v_iload C dX5_worst_30 rfl ?_
    refine v_bipush (v := 6) C dX5_worst_32 (by decide) ?_
    refine v_icmp_ge (tgt := 67) C dX5_worst_34 (by decide) (fun c34 => absurd c34 (by rw [fa_le, ti_6, nI_toInt (by omega)]; omega)) (fun c34 => ?_)
    refine v_aload_n C dX5_worst_37 rfl rfl ?_
    refine v_iconst (v := 1) C dX5_worst_38 (by decide) ?_
    refine v_iload C dX5_worst_39 rfl ?_
    refine v_ishl C dX5_worst_41 ?_
    refine v_callVi C (c_X5_namesLeftWithout l E zw hC hb hs hw (1 <<< (nI i &&& 31))) (cwV 1 C.1.2.2.2.2 gX5_worst_X5_namesLeftWithout rfl rfl rfl (by decide +kernel) ⟨by decide, by decide⟩) 0 6 hX rfl rfl rfl (Nat.le_of_ble_eq_true rfl) dX5_worst_42 ⟨Nat.le_of_ble_eq_true rfl, Nat.le_of_ble_eq_true rfl⟩ (fun r zw hp => ?_)
    obtain ⟨hw, hF10, hr9⟩ := hp
    have hr9 : r = uL L (1 <<< (nI i &&& 31)) := hr9
    rw [hr9]
    clear hr9
    have hC := hC.n hF10 (by decide) (by decide)
    have hs := hs.keep (hF10.2 8 (by decide) (by decide)) (hF10.2 9 (by decide) (by decide))
    have hF := hF.tr (wFr.n10 hF10)
    have hX := hC.1
    refine v_istore C dX5_worst_45 (by decide) rfl ?_
    refine v_at (pc9 := 47) rfl ?_
    refine v_iload C dX5_worst_47 rfl ?_
    refine v_iload C dX5_worst_49 rfl ?_
    refine v_icmp_ge (tgt := 61) C dX5_worst_51 (by decide) (fun c51 => ?_) (fun c51 => ?_)
    · have e9 : ¬ (fun m => uL L (1 <<< (nI m &&& 31))) i < wF (fun m => uL L (1 <<< (nI m &&& 31))) i := fun h => by rw [fa_lt] at h; rw [fa_le] at c51; exact absurd h (Int.not_lt.mpr c51)
      refine v_pick (lv9 := [(0, .ref (ca 0)), (1, .int f), (2, .int t), (3, .int (wB (fun m => uL L (1 <<< (nI m &&& 31))) (i + 1))), (4, .int (wF (fun m => uL L (1 <<< (nI m &&& 31))) (i + 1))), (5, .int (nI i))]) ⟨rfl, rfl, rfl, by first | (rw [wB_s, if_pos e9]; rfl) | (rw [wB_s, if_neg e9]; rfl), by first | (rw [wF_s, if_pos e9]; rfl) | (rw [wF_s, if_neg e9]; rfl), rfl, trivial⟩ ?_
      refine v_iincN C dX5_worst_61 rfl (by decide) rfl ?_
      refine v_goto (tgt := 30) C dX5_worst_64 (by decide) ?_
      exact ih (i + 1) (by omega) zw _ hC hF hs hw
    · have e9 : (fun m => uL L (1 <<< (nI m &&& 31))) i < wF (fun m => uL L (1 <<< (nI m &&& 31))) i := by rw [fa_lt]; rw [fa_le] at c51; exact Int.not_le.mp c51
      refine v_iload C dX5_worst_54 rfl ?_
      refine v_istore C dX5_worst_56 (by decide) rfl ?_
      refine v_iload C dX5_worst_58 rfl ?_
      refine v_istore_n C dX5_worst_60 rfl (by decide) rfl ?_
      refine v_pick (lv9 := [(0, .ref (ca 0)), (1, .int f), (2, .int t), (3, .int (wB (fun m => uL L (1 <<< (nI m &&& 31))) (i + 1))), (4, .int (wF (fun m => uL L (1 <<< (nI m &&& 31))) (i + 1))), (5, .int (nI i))]) ⟨rfl, rfl, rfl, by first | (rw [wB_s, if_pos e9]; rfl) | (rw [wB_s, if_neg e9]; rfl), by first | (rw [wF_s, if_pos e9]; rfl) | (rw [wF_s, if_neg e9]; rfl), rfl, trivial⟩ ?_
      refine v_iincN C dX5_worst_61 rfl (by decide) rfl ?_
      refine v_goto (tgt := 30) C dX5_worst_64 (by decide) ?_
      exact ih (i + 1) (by omega) zw _ hC hF hs hw
set_option maxHeartbeats 4000000 in
set_option maxRecDepth 100000 in
theorem c_X5_worst (l : Launch) (E : gE) (zw : va_W) {ca : Nat → Nat} {t0 : Int32} {ar : Nat → Nat → Int32} {dr ch : Nat → Int32} {ns np na : Nat} {qe : Nat → Nat} {pl : Nat → Nat → Nat} (hC : CF E ca zw t0 ar dr ch ns np na qe pl) (hb : ns ≤ 120 ∧ np ≤ 2000 ∧ na ≤ 10) {L0 L1 : List Int32} (hs : cS E ca zw 8 L0) (hw : cS E ca zw 10 L1) (f t : Int32) : CtI l yX5_worst wsX5_worst ({ frames := 5, cells := 0, slots := 0, locals := 111 }) E [.ref (ca 0), .int f, .int t] zw (fun r w1 => wFr zw w1 ∧ (∃ L, cS E ca w1 8 L) ∧ (∃ L, cS E ca w1 10 L) ∧ r = if 0 ≤ t.toInt ∧ t.toInt ≤ t0.toInt ∧ 0 ≤ f.toInt ∧ f.toInt ≤ t.toInt then wB (fun m => uL (insN (inSp (ar 12) f t) (sNm ar) np) (1 <<< (nI m &&& 31))) 6 else (-2)) 0 0 := by
  refine Ct.of (cc := cX5_worst) (nL := 7) (ret := (some .int)) (by decide) rfl (Nat.le_of_ble_eq_true rfl) ?_
  intro p e s m args below meth c C hr hnm
  refine v_eqlv (lv9 := [(0, .ref (ca 0)), (1, .int f), (2, .int t)]) rfl ?_
  obtain ⟨hX, h4, h5, h6, h7, hL1, hL2, hL3⟩ := id hC
  obtain ⟨fs1, hq1⟩ := hL1.cell
  obtain ⟨fs2, hq2⟩ := hL2.cell
  obtain ⟨fs3, hq3⟩ := hL3.cell
  refine v_aload_n C dX5_worst_0 rfl rfl ?_
  refine v_iload_n C dX5_worst_1 rfl rfl ?_
  refine v_iload_n C dX5_worst_2 rfl rfl ?_
  refine v_callVi C (c_X5_isSpan l E zw hC hb _ _) (cwV 2 C.1.2.2.2.2 gX5_worst_X5_isSpan rfl rfl rfl (by decide +kernel) ⟨by decide, by decide⟩) 0 6 hX rfl rfl rfl (Nat.le_of_ble_eq_true rfl) dX5_worst_3 ⟨Nat.le_of_ble_eq_true rfl, Nat.le_of_ble_eq_true rfl⟩ (fun r w1 hp => ?_)
  obtain ⟨rfl, hr9⟩ := hp
  rw [hr9]
  clear hr9
  refine v_if_ne (tgt := 12) C dX5_worst_6 (by decide) (fun c6 => ?_) (fun c6 => ?_)
  · have c6 := b01_n c6
    refine v_aload_n C dX5_worst_12 rfl rfl ?_
    refine v_iload_n C dX5_worst_13 rfl rfl ?_
    refine v_iload_n C dX5_worst_14 rfl rfl ?_
    refine v_callVu C (c_X5_gatherSeen l E zw hC hb hs f t) (cwV 2 C.1.2.2.2.2 gX5_worst_X5_gatherSeen rfl rfl rfl (by decide +kernel) ⟨by decide, by decide⟩) 0 6 hX rfl rfl rfl (Nat.le_of_ble_eq_true rfl) dX5_worst_15 ⟨Nat.le_of_ble_eq_true rfl, Nat.le_of_ble_eq_true rfl⟩ (fun zw hp => ?_)
    obtain ⟨hs, hF8⟩ := hp
    have hC := hC.n hF8 (by decide) (by decide)
    have hw := hw.keep (hF8.2 10 (by decide) (by decide)) (hF8.2 11 (by decide) (by decide))
    have hF := wFr.n8 hF8
    have hX := hC.1
    have hlS := insN_len (inSp (ar 12) f t) (sNm ar) np
    obtain ⟨fz, g8, g9, hU, hS, hl⟩ := id hs
    refine v_iconst (v := 0) C dX5_worst_18 (by decide) ?_
    refine v_istore_n C dX5_worst_19 rfl (by decide) rfl ?_
    refine v_aload_n C dX5_worst_20 rfl rfl ?_
    refine v_iconst (v := 1) C dX5_worst_21 (by decide) ?_
    refine v_callVi C (c_X5_namesLeftWithout l E zw hC hb hs hw 1) (cwV 1 C.1.2.2.2.2 gX5_worst_X5_namesLeftWithout rfl rfl rfl (by decide +kernel) ⟨by decide, by decide⟩) 0 6 hX rfl rfl rfl (Nat.le_of_ble_eq_true rfl) dX5_worst_22 ⟨Nat.le_of_ble_eq_true rfl, Nat.le_of_ble_eq_true rfl⟩ (fun r zw hp => ?_)
    obtain ⟨hw, hF10, hr9⟩ := hp
    have hr9 : r = (fun m => uL (insN (inSp (ar 12) f t) (sNm ar) np) (1 <<< (nI m &&& 31))) 0 := hr9
    rw [hr9]
    clear hr9
    have hC := hC.n hF10 (by decide) (by decide)
    have hs := hs.keep (hF10.2 8 (by decide) (by decide)) (hF10.2 9 (by decide) (by decide))
    have hF := hF.tr (wFr.n10 hF10)
    have hX := hC.1
    refine v_at (pc9 := 25) rfl ?_
    refine v_istore C dX5_worst_25 (by decide) rfl ?_
    refine v_iconst (v := 1) C dX5_worst_27 (by decide) ?_
    refine v_istore C dX5_worst_28 (by decide) rfl ?_
    have e9 : (fun m => uL (insN (inSp (ar 12) f t) (sNm ar) np) (1 <<< (nI m &&& 31))) 0 < (9999 : Int32) := by
      rw [fa_lt, ti_9999]
      show (nI _).toInt < 9999
      have := LN_len (insN (inSp (ar 12) f t) (sNm ar) np) (dgs (63 ^^^ ((1 : Int32) <<< (nI 0 &&& 31))) 6) (insN (inSp (ar 12) f t) (sNm ar) np).length
      rw [nI_toInt (by omega)]
      omega
    refine v_pick (lv9 := [(0, .ref (ca 0)), (1, .int f), (2, .int t), (3, .int (wB (fun m => uL (insN (inSp (ar 12) f t) (sNm ar) np) (1 <<< (nI m &&& 31))) 1)), (4, .int (wF (fun m => uL (insN (inSp (ar 12) f t) (sNm ar) np) (1 <<< (nI m &&& 31))) 1)), (5, .int (nI 1))]) ⟨rfl, rfl, rfl, by rw [wB_s]; rw [show wF (fun m => uL (insN (inSp (ar 12) f t) (sNm ar) np) (1 <<< (nI m &&& 31))) 0 = 9999 from rfl, if_pos e9]; rfl, by rw [wF_s]; rw [show wF (fun m => uL (insN (inSp (ar 12) f t) (sNm ar) np) (1 <<< (nI m &&& 31))) 0 = 9999 from rfl, if_pos e9]; rfl, rfl, trivial⟩ ?_
    refine lp_X5_worst C hb ?_ 5 1 rfl zw _ hC hF hs hw
    intro zw L1 hC hF hs hw
    refine v_iload_n C dX5_worst_67 rfl rfl ?_
    refine v_iret C hr dX5_worst_68 (Nat.le_of_ble_eq_true rfl) (Nat.le_of_ble_eq_true rfl) ?_
    exact ⟨_, rfl, (by first | exact ⟨wFr.rf _, ⟨_, hs⟩, ⟨_, hw⟩, by rw [if_neg c6]; done⟩ | exact ⟨hF, ⟨_, hs⟩, ⟨_, hw⟩, by rw [if_pos c6]; done⟩)⟩
  · have c6 := b01_0 c6
    refine v_bipush (v := (-2)) C dX5_worst_9 (by decide) ?_
    refine v_iret C hr dX5_worst_11 (Nat.le_of_ble_eq_true rfl) (Nat.le_of_ble_eq_true rfl) ?_
    exact ⟨_, rfl, (by first | exact ⟨wFr.rf _, ⟨_, hs⟩, ⟨_, hw⟩, by rw [if_neg c6]; done⟩ | exact ⟨hF, ⟨_, hs⟩, ⟨_, hw⟩, by rw [if_pos c6]; done⟩)⟩
theorem inX5_answer_X5 : ∀ x ∈ wsX50, x ∈ wsX5_answer := by decide +kernel
theorem kwX5_answer_19 : Cond.fieldLink RX5 19 "SeriesMarks" "askings" "Ljava/util/ArrayList;" ∈ wsX5_answer := by decide +kernel
theorem kwX5_answer_cl178 : Cond.classLink RX5 178 "SeriesMarks$Asking" ∈ wsX5_answer := by decide +kernel
theorem kwX5_answer_c112 : Cond.constantLong RX5 112 (-2) ∈ wsX5_answer := by decide +kernel
theorem inX5_answer_X0 : ∀ x ∈ wsX00, x ∈ wsX5_answer := by decide +kernel
theorem kwX5_answer_c106 : Cond.constantLong RX5 106 (-1) ∈ wsX5_answer := by decide +kernel
set_option maxHeartbeats 4000000 in
set_option maxRecDepth 100000 in
theorem c_X5_answer (l : Launch) (E : gE) (zw : va_W) {ca : Nat → Nat} {t0 : Int32} {ar : Nat → Nat → Int32} {dr ch : Nat → Int32} {ns np na : Nat} {qe : Nat → Nat} {pl : Nat → Nat → Nat} (hC : CF E ca zw t0 ar dr ch ns np na qe pl) (hb : ns ≤ 120 ∧ np ≤ 2000 ∧ na ≤ 10) (a0 x f t : Int32) : CtL l yX5_answer wsX5_answer ({ frames := 4, cells := 0, slots := 0, locals := 92 }) E [.ref (ca 0), .int a0, .int x, .int f, .int t] zw (fun r w1 => zw = w1 ∧ r = if 0 ≤ a0.toInt ∧ a0.toInt < na then (if (0 ≤ x.toInt ∧ x.toInt ≤ 262143) ∧ kyC ar a0.toNatClampNeg x = x ∧ (0 ≤ t.toInt ∧ t.toInt ≤ t0.toInt ∧ 0 ≤ f.toInt ∧ f.toInt ≤ t.toInt) then smL (fun k => inSp (ar 12) f t k && decide (sNm ar k &&& dgs (ar 18 a0.toNatClampNeg) 6 = x &&& dgs (ar 18 a0.toNatClampNeg) 6)) (ar 13) np else (-2)) else (-1)) 0 0 := by
  refine Ct.of (cc := cX5_answer) (nL := 6) (ret := (some .long)) (by decide) rfl (Nat.le_of_ble_eq_true rfl) ?_
  intro p e s m args below meth c C hr hnm
  refine v_eqlv (lv9 := [(0, .ref (ca 0)), (1, .int a0), (2, .int x), (3, .int f), (4, .int t)]) rfl ?_
  obtain ⟨hX, h4, h5, h6, h7, hL1, hL2, hL3⟩ := id hC
  obtain ⟨fs1, hq1⟩ := hL1.cell
  obtain ⟨fs2, hq2⟩ := hL2.cell
  obtain ⟨fs3, hq3⟩ := hL3.cell
  refine v_aload_n C dX5_answer_0 rfl rfl ?_
  refine v_iload_n C dX5_answer_1 rfl rfl ?_
  refine v_callVi C (c_X5_isAsking l E zw hC hb _) (cwV 1 C.1.2.2.2.2 gX5_answer_X5_isAsking rfl rfl rfl (by decide +kernel) ⟨by decide, by decide⟩) 0 6 hX rfl rfl rfl (Nat.le_of_ble_eq_true rfl) dX5_answer_2 ⟨Nat.le_of_ble_eq_true rfl, Nat.le_of_ble_eq_true rfl⟩ (fun r w1 hp => ?_)
  obtain ⟨rfl, hr9⟩ := hp
  rw [hr9]
  clear hr9
  refine v_if_ne (tgt := 12) C dX5_answer_5 (by decide) (fun c5 => ?_) (fun c5 => ?_)
  · have c5 := b01_n c5
    obtain ⟨ja, hja, rfl⟩ := nI_ex c5.1 c5.2
    have eja := nI_clamp (n := ja) (by omega)
    refine v_aload_n C dX5_answer_12 rfl rfl ?_
    refine v_get (v := .ref (ca 3)) C inX5_answer_X5 0 hX rfl 3 (by decide) kwX5_answer_19 rfl rfl dX5_answer_13 ?_
    refine v_iload_n C dX5_answer_16 rfl rfl ?_
    refine v_callVa C (hL3.get l (j := ja) hja) (cwV 1 C.1.2.2.2.2 gX5_answer_Jx4a65c_get_915e3 rfl rfl rfl (by decide +kernel) ⟨by decide, by decide⟩) 3 0 hq3 rfl rfl rfl (Nat.le_of_ble_eq_true rfl) dX5_answer_17 ⟨Nat.le_of_ble_eq_true rfl, Nat.le_of_ble_eq_true rfl⟩ (fun rq w1 hp => ?_)
    obtain ⟨rfl, hob⟩ := hp
    refine v_cast C kwX5_answer_cl178 (pl 3 ja) hob rfl dX5_answer_20 ?_
    refine v_astore C dX5_answer_23 (by decide) rfl ?_
    refine v_iload_n C dX5_answer_25 rfl rfl ?_
    refine v_callSi C (c_X5_isName l E zw _ ) (va_cwS 1 C.1.2.2.2.2 gX5_answer_X5_isName rfl rfl rfl (by decide +kernel) ⟨by decide, by decide⟩) rfl rfl (Nat.le_of_ble_eq_true rfl) dX5_answer_26 ⟨Nat.le_of_ble_eq_true rfl, Nat.le_of_ble_eq_true rfl⟩ (fun r w1 hp => ?_)
    obtain ⟨rfl, hr9⟩ := hp
    rw [hr9]
    clear hr9
    refine v_if_eq (tgt := 52) C dX5_answer_29 (by decide) (fun c29 => ?_) (fun c29 => ?_)
    · have c29 := b01_0 c29
      refine v_ldc2 C kwX5_answer_c112 dX5_answer_52 ?_
      refine v_lret C hr dX5_answer_55 (Nat.le_of_ble_eq_true rfl) (Nat.le_of_ble_eq_true rfl) ?_
      exact ⟨_, rfl, ⟨rfl, by first | (rw [if_neg c5] <;> rfl) | (rw [if_pos c5, if_neg (fun h => c29 h.1)] <;> rfl) | (rw [if_pos c5, eja, if_neg (fun h => c39 h.2.1)] <;> rfl) | (rw [if_pos c5, if_neg (fun h => c49 h.2.2)] <;> rfl) | (rw [if_pos c5, eja, if_pos ⟨c29, c39, c49⟩] <;> rfl)⟩⟩
    · have c29 := b01_n c29
      refine v_aload C dX5_answer_32 rfl ?_
      refine v_iload_n C dX5_answer_34 rfl rfl ?_
      refine v_callVi C (c_X0_keyOf l E zw hob _) (cwV 1 C.1.2.2.2.2 gX5_answer_X0_keyOf rfl rfl rfl (by decide +kernel) ⟨by decide, by decide⟩) (pl 3 ja) 1 hob rfl rfl rfl (Nat.le_of_ble_eq_true rfl) dX5_answer_35 ⟨Nat.le_of_ble_eq_true rfl, Nat.le_of_ble_eq_true rfl⟩ (fun r w1 hp => ?_)
      obtain ⟨rfl, hr9⟩ := hp
      have hr9 : r = kyC ar ja x := hr9
      rw [hr9]
      clear hr9
      refine v_iload_n C dX5_answer_38 rfl rfl ?_
      refine v_icmp_ne (tgt := 52) C dX5_answer_39 (by decide) (fun c39 => ?_) (fun c39 => ?_)
      · refine v_ldc2 C kwX5_answer_c112 dX5_answer_52 ?_
        refine v_lret C hr dX5_answer_55 (Nat.le_of_ble_eq_true rfl) (Nat.le_of_ble_eq_true rfl) ?_
        exact ⟨_, rfl, ⟨rfl, by first | (rw [if_neg c5] <;> rfl) | (rw [if_pos c5, if_neg (fun h => c29 h.1)] <;> rfl) | (rw [if_pos c5, eja, if_neg (fun h => c39 h.2.1)] <;> rfl) | (rw [if_pos c5, if_neg (fun h => c49 h.2.2)] <;> rfl) | (rw [if_pos c5, eja, if_pos ⟨c29, c39, c49⟩] <;> rfl)⟩⟩
      · refine v_aload_n C dX5_answer_42 rfl rfl ?_
        refine v_iload_n C dX5_answer_43 rfl rfl ?_
        refine v_iload C dX5_answer_44 rfl ?_
        refine v_callVi C (c_X5_isSpan l E zw hC hb _ _) (cwV 2 C.1.2.2.2.2 gX5_answer_X5_isSpan rfl rfl rfl (by decide +kernel) ⟨by decide, by decide⟩) 0 6 hX rfl rfl rfl (Nat.le_of_ble_eq_true rfl) dX5_answer_46 ⟨Nat.le_of_ble_eq_true rfl, Nat.le_of_ble_eq_true rfl⟩ (fun r w1 hp => ?_)
        obtain ⟨rfl, hr9⟩ := hp
        rw [hr9]
        clear hr9
        refine v_if_ne (tgt := 56) C dX5_answer_49 (by decide) (fun c49 => ?_) (fun c49 => ?_)
        · have c49 := b01_n c49
          refine v_aload_n C dX5_answer_56 rfl rfl ?_
          refine v_aload C dX5_answer_57 rfl ?_
          refine v_getN C inX5_answer_X0 rfl (pl 3 ja) hob rfl 1 (by decide) (by decide +kernel) rfl dX5_answer_59 ?_
          refine v_iload_n C dX5_answer_62 rfl rfl ?_
          refine v_iload_n C dX5_answer_63 rfl rfl ?_
          refine v_iload C dX5_answer_64 rfl ?_
          refine v_callVl C (c_X5_growthOfAlike l E zw hC hb _ _ _ _) (cwV 4 C.1.2.2.2.2 gX5_answer_X5_growthOfAlike rfl rfl rfl (by decide +kernel) ⟨by decide, by decide⟩) 0 6 hX rfl rfl rfl (Nat.le_of_ble_eq_true rfl) dX5_answer_66 ⟨Nat.le_of_ble_eq_true rfl, Nat.le_of_ble_eq_true rfl⟩ (fun r w1 hp => ?_)
          obtain ⟨rfl, hr9⟩ := hp
          rw [hr9]
          clear hr9
          refine v_lret C hr dX5_answer_69 (Nat.le_of_ble_eq_true rfl) (Nat.le_of_ble_eq_true rfl) ?_
          exact ⟨_, rfl, ⟨rfl, by first | (rw [if_neg c5] <;> rfl) | (rw [if_pos c5, if_neg (fun h => c29 h.1)] <;> rfl) | (rw [if_pos c5, eja, if_neg (fun h => c39 h.2.1)] <;> rfl) | (rw [if_pos c5, if_neg (fun h => c49 h.2.2)] <;> rfl) | (rw [if_pos c5, eja, if_pos ⟨c29, c39, c49⟩] <;> rfl)⟩⟩
        · have c49 := b01_0 c49
          refine v_ldc2 C kwX5_answer_c112 dX5_answer_52 ?_
          refine v_lret C hr dX5_answer_55 (Nat.le_of_ble_eq_true rfl) (Nat.le_of_ble_eq_true rfl) ?_
          exact ⟨_, rfl, ⟨rfl, by first | (rw [if_neg c5] <;> rfl) | (rw [if_pos c5, if_neg (fun h => c29 h.1)] <;> rfl) | (rw [if_pos c5, eja, if_neg (fun h => c39 h.2.1)] <;> rfl) | (rw [if_pos c5, if_neg (fun h => c49 h.2.2)] <;> rfl) | (rw [if_pos c5, eja, if_pos ⟨c29, c39, c49⟩] <;> rfl)⟩⟩
  · have c5 := b01_0 c5
    refine v_ldc2 C kwX5_answer_c106 dX5_answer_8 ?_
    refine v_lret C hr dX5_answer_11 (Nat.le_of_ble_eq_true rfl) (Nat.le_of_ble_eq_true rfl) ?_
    exact ⟨_, rfl, ⟨rfl, by first | (rw [if_neg c5] <;> rfl) | (rw [if_pos c5, if_neg (fun h => c29 h.1)] <;> rfl) | (rw [if_pos c5, eja, if_neg (fun h => c39 h.2.1)] <;> rfl) | (rw [if_pos c5, if_neg (fun h => c49 h.2.2)] <;> rfl) | (rw [if_pos c5, eja, if_pos ⟨c29, c39, c49⟩] <;> rfl)⟩⟩
theorem inX5_keys_X5 : ∀ x ∈ wsX50, x ∈ wsX5_keys := by decide +kernel
theorem kwX5_keys_19 : Cond.fieldLink RX5 19 "SeriesMarks" "askings" "Ljava/util/ArrayList;" ∈ wsX5_keys := by decide +kernel
theorem kwX5_keys_cl178 : Cond.classLink RX5 178 "SeriesMarks$Asking" ∈ wsX5_keys := by decide +kernel
theorem kwX5_keys_40 : Cond.fieldLink RX5 40 "SeriesMarks" "workNames" "LSeriesMarks$NameSet;" ∈ wsX5_keys := by decide +kernel
theorem inX5_keys_X1 : ∀ x ∈ wsX10, x ∈ wsX5_keys := by decide +kernel
set_option maxHeartbeats 4000000 in
set_option maxRecDepth 100000 in
theorem c_X5_keys (l : Launch) (E : gE) (zw : va_W) {ca : Nat → Nat} {t0 : Int32} {ar : Nat → Nat → Int32} {dr ch : Nat → Int32} {ns np na : Nat} {qe : Nat → Nat} {pl : Nat → Nat → Nat} (hC : CF E ca zw t0 ar dr ch ns np na qe pl) (hb : ns ≤ 120 ∧ np ≤ 2000 ∧ na ≤ 10) {L0 L1 : List Int32} (hs : cS E ca zw 8 L0) (hw : cS E ca zw 10 L1) (a0 f t : Int32) : CtI l yX5_keys wsX5_keys ({ frames := 6, cells := 0, slots := 0, locals := 136 }) E [.ref (ca 0), .int a0, .int f, .int t] zw (fun r w1 => wFr zw w1 ∧ (∃ L, cS E ca w1 8 L) ∧ (∃ L, cS E ca w1 10 L) ∧ r = if 0 ≤ a0.toInt ∧ a0.toInt < na then (if 0 ≤ t.toInt ∧ t.toInt ≤ t0.toInt ∧ 0 ≤ f.toInt ∧ f.toInt ≤ t.toInt then nI (LK ar a0.toNatClampNeg (insN (inSp (ar 12) f t) (sNm ar) np) (insN (inSp (ar 12) f t) (sNm ar) np).length).length else (-2)) else (-1)) 0 0 := by
  refine Ct.of (cc := cX5_keys) (nL := 4) (ret := (some .int)) (by decide) rfl (Nat.le_of_ble_eq_true rfl) ?_
  intro p e s m args below meth c C hr hnm
  refine v_eqlv (lv9 := [(0, .ref (ca 0)), (1, .int a0), (2, .int f), (3, .int t)]) rfl ?_
  obtain ⟨hX, h4, h5, h6, h7, hL1, hL2, hL3⟩ := id hC
  obtain ⟨fs1, hq1⟩ := hL1.cell
  obtain ⟨fs2, hq2⟩ := hL2.cell
  obtain ⟨fs3, hq3⟩ := hL3.cell
  refine v_aload_n C dX5_keys_0 rfl rfl ?_
  refine v_iload_n C dX5_keys_1 rfl rfl ?_
  refine v_callVi C (c_X5_isAsking l E zw hC hb _) (cwV 1 C.1.2.2.2.2 gX5_keys_X5_isAsking rfl rfl rfl (by decide +kernel) ⟨by decide, by decide⟩) 0 6 hX rfl rfl rfl (Nat.le_of_ble_eq_true rfl) dX5_keys_2 ⟨Nat.le_of_ble_eq_true rfl, Nat.le_of_ble_eq_true rfl⟩ (fun r w1 hp => ?_)
  obtain ⟨rfl, hr9⟩ := hp
  rw [hr9]
  clear hr9
  refine v_if_ne (tgt := 10) C dX5_keys_5 (by decide) (fun c5 => ?_) (fun c5 => ?_)
  · have c5 := b01_n c5
    obtain ⟨ja, hja, rfl⟩ := nI_ex c5.1 c5.2
    have eja := nI_clamp (n := ja) (by omega)
    refine v_aload_n C dX5_keys_10 rfl rfl ?_
    refine v_iload_n C dX5_keys_11 rfl rfl ?_
    refine v_iload_n C dX5_keys_12 rfl rfl ?_
    refine v_callVi C (c_X5_isSpan l E zw hC hb _ _) (cwV 2 C.1.2.2.2.2 gX5_keys_X5_isSpan rfl rfl rfl (by decide +kernel) ⟨by decide, by decide⟩) 0 6 hX rfl rfl rfl (Nat.le_of_ble_eq_true rfl) dX5_keys_13 ⟨Nat.le_of_ble_eq_true rfl, Nat.le_of_ble_eq_true rfl⟩ (fun r w1 hp => ?_)
    obtain ⟨rfl, hr9⟩ := hp
    rw [hr9]
    clear hr9
    refine v_if_ne (tgt := 22) C dX5_keys_16 (by decide) (fun c16 => ?_) (fun c16 => ?_)
    · have c16 := b01_n c16
      refine v_aload_n C dX5_keys_22 rfl rfl ?_
      refine v_aload_n C dX5_keys_23 rfl rfl ?_
      refine v_get (v := .ref (ca 3)) C inX5_keys_X5 0 hX rfl 3 (by decide) kwX5_keys_19 rfl rfl dX5_keys_24 ?_
      refine v_iload_n C dX5_keys_27 rfl rfl ?_
      refine v_callVa C (hL3.get l (j := ja) hja) (cwV 1 C.1.2.2.2.2 gX5_keys_Jx4a65c_get_915e3 rfl rfl rfl (by decide +kernel) ⟨by decide, by decide⟩) 3 0 hq3 rfl rfl rfl (Nat.le_of_ble_eq_true rfl) dX5_keys_28 ⟨Nat.le_of_ble_eq_true rfl, Nat.le_of_ble_eq_true rfl⟩ (fun rq w1 hp => ?_)
      obtain ⟨rfl, hob⟩ := hp
      refine v_cast C kwX5_keys_cl178 (pl 3 ja) hob rfl dX5_keys_31 ?_
      refine v_iload_n C dX5_keys_34 rfl rfl ?_
      refine v_iload_n C dX5_keys_35 rfl rfl ?_
      refine v_callVu C (c_X5_gatherKeys l E zw hC hb hs hw (hL3.pl hja) hob f t) (cwV 3 C.1.2.2.2.2 gX5_keys_X5_gatherKeys rfl rfl rfl (by decide +kernel) ⟨by decide, by decide⟩) 0 6 hX rfl rfl rfl (Nat.le_of_ble_eq_true rfl) dX5_keys_36 ⟨Nat.le_of_ble_eq_true rfl, Nat.le_of_ble_eq_true rfl⟩ (fun zw hp => ?_)
      obtain ⟨hs, hw, hF⟩ := hp
      have hC := hC.w hF
      have hX := hC.1
      have hlS := insN_len (inSp (ar 12) f t) (sNm ar) np
      obtain ⟨fw, g10, g11, hUw, hSw, hlw⟩ := id hw
      refine v_at (pc9 := 39) rfl ?_
      refine v_aload_n C dX5_keys_39 rfl rfl ?_
      refine v_get (v := .ref (ca 10)) C inX5_keys_X5 0 hX rfl 7 (by decide) kwX5_keys_40 rfl rfl dX5_keys_40 ?_
      refine v_getN C inX5_keys_X1 rfl 10 g10 rfl 1 (by decide) (by decide +kernel) rfl dX5_keys_43 ?_
      refine v_iret C hr dX5_keys_46 (Nat.le_of_ble_eq_true rfl) (Nat.le_of_ble_eq_true rfl) ?_
      exact ⟨_, rfl, (by first | exact ⟨wFr.rf _, ⟨_, hs⟩, ⟨_, hw⟩, by first | (rw [if_neg c5]; done) | (rw [if_pos c5, if_neg c16]; done)⟩ | exact ⟨hF, ⟨_, hs⟩, ⟨_, hw⟩, by rw [if_pos c5, if_pos c16, eja]; done⟩)⟩
    · have c16 := b01_0 c16
      refine v_bipush (v := (-2)) C dX5_keys_19 (by decide) ?_
      refine v_iret C hr dX5_keys_21 (Nat.le_of_ble_eq_true rfl) (Nat.le_of_ble_eq_true rfl) ?_
      exact ⟨_, rfl, (by first | exact ⟨wFr.rf _, ⟨_, hs⟩, ⟨_, hw⟩, by first | (rw [if_neg c5]; done) | (rw [if_pos c5, if_neg c16]; done)⟩ | exact ⟨hF, ⟨_, hs⟩, ⟨_, hw⟩, by rw [if_pos c5, if_pos c16, eja]; done⟩)⟩
  · have c5 := b01_0 c5
    refine v_iconst (v := (-1)) C dX5_keys_8 (by decide) ?_
    refine v_iret C hr dX5_keys_9 (Nat.le_of_ble_eq_true rfl) (Nat.le_of_ble_eq_true rfl) ?_
    exact ⟨_, rfl, (by first | exact ⟨wFr.rf _, ⟨_, hs⟩, ⟨_, hw⟩, by first | (rw [if_neg c5]; done) | (rw [if_pos c5, if_neg c16]; done)⟩ | exact ⟨hF, ⟨_, hs⟩, ⟨_, hw⟩, by rw [if_pos c5, if_pos c16, eja]; done⟩)⟩
theorem inX5_key_X5 : ∀ x ∈ wsX50, x ∈ wsX5_key := by decide +kernel
theorem kwX5_key_19 : Cond.fieldLink RX5 19 "SeriesMarks" "askings" "Ljava/util/ArrayList;" ∈ wsX5_key := by decide +kernel
theorem kwX5_key_cl178 : Cond.classLink RX5 178 "SeriesMarks$Asking" ∈ wsX5_key := by decide +kernel
theorem kwX5_key_40 : Cond.fieldLink RX5 40 "SeriesMarks" "workNames" "LSeriesMarks$NameSet;" ∈ wsX5_key := by decide +kernel
theorem inX5_key_X1 : ∀ x ∈ wsX10, x ∈ wsX5_key := by decide +kernel
set_option maxHeartbeats 4000000 in
set_option maxRecDepth 100000 in
theorem c_X5_key (l : Launch) (E : gE) (zw : va_W) {ca : Nat → Nat} {t0 : Int32} {ar : Nat → Nat → Int32} {dr ch : Nat → Int32} {ns np na : Nat} {qe : Nat → Nat} {pl : Nat → Nat → Nat} (hC : CF E ca zw t0 ar dr ch ns np na qe pl) (hb : ns ≤ 120 ∧ np ≤ 2000 ∧ na ≤ 10) {L0 L1 : List Int32} (hs : cS E ca zw 8 L0) (hw : cS E ca zw 10 L1) (a0 i0 f t : Int32) : CtI l yX5_key wsX5_key ({ frames := 6, cells := 0, slots := 0, locals := 136 }) E [.ref (ca 0), .int a0, .int i0, .int f, .int t] zw (fun r w1 => wFr zw w1 ∧ (∃ L, cS E ca w1 8 L) ∧ (∃ L, cS E ca w1 10 L) ∧ r = if 0 ≤ a0.toInt ∧ a0.toInt < na then (if 0 ≤ t.toInt ∧ t.toInt ≤ t0.toInt ∧ 0 ≤ f.toInt ∧ f.toInt ≤ t.toInt then (if 0 ≤ i0.toInt ∧ i0.toInt < (LK ar a0.toNatClampNeg (insN (inSp (ar 12) f t) (sNm ar) np) (insN (inSp (ar 12) f t) (sNm ar) np).length).length then (LK ar a0.toNatClampNeg (insN (inSp (ar 12) f t) (sNm ar) np) (insN (inSp (ar 12) f t) (sNm ar) np).length).getD i0.toInt.toNat (-9) else (-9)) else (-2)) else (-1)) 0 0 := by
  refine Ct.of (cc := cX5_key) (nL := 5) (ret := (some .int)) (by decide) rfl (Nat.le_of_ble_eq_true rfl) ?_
  intro p e s m args below meth c C hr hnm
  refine v_eqlv (lv9 := [(0, .ref (ca 0)), (1, .int a0), (2, .int i0), (3, .int f), (4, .int t)]) rfl ?_
  obtain ⟨hX, h4, h5, h6, h7, hL1, hL2, hL3⟩ := id hC
  obtain ⟨fs1, hq1⟩ := hL1.cell
  obtain ⟨fs2, hq2⟩ := hL2.cell
  obtain ⟨fs3, hq3⟩ := hL3.cell
  refine v_aload_n C dX5_key_0 rfl rfl ?_
  refine v_iload_n C dX5_key_1 rfl rfl ?_
  refine v_callVi C (c_X5_isAsking l E zw hC hb _) (cwV 1 C.1.2.2.2.2 gX5_key_X5_isAsking rfl rfl rfl (by decide +kernel) ⟨by decide, by decide⟩) 0 6 hX rfl rfl rfl (Nat.le_of_ble_eq_true rfl) dX5_key_2 ⟨Nat.le_of_ble_eq_true rfl, Nat.le_of_ble_eq_true rfl⟩ (fun r w1 hp => ?_)
  obtain ⟨rfl, hr9⟩ := hp
  rw [hr9]
  clear hr9
  refine v_if_ne (tgt := 10) C dX5_key_5 (by decide) (fun c5 => ?_) (fun c5 => ?_)
  · have c5 := b01_n c5
    obtain ⟨ja, hja, rfl⟩ := nI_ex c5.1 c5.2
    have eja := nI_clamp (n := ja) (by omega)
    refine v_aload_n C dX5_key_10 rfl rfl ?_
    refine v_iload_n C dX5_key_11 rfl rfl ?_
    refine v_iload C dX5_key_12 rfl ?_
    refine v_callVi C (c_X5_isSpan l E zw hC hb _ _) (cwV 2 C.1.2.2.2.2 gX5_key_X5_isSpan rfl rfl rfl (by decide +kernel) ⟨by decide, by decide⟩) 0 6 hX rfl rfl rfl (Nat.le_of_ble_eq_true rfl) dX5_key_14 ⟨Nat.le_of_ble_eq_true rfl, Nat.le_of_ble_eq_true rfl⟩ (fun r w1 hp => ?_)
    obtain ⟨rfl, hr9⟩ := hp
    rw [hr9]
    clear hr9
    refine v_if_ne (tgt := 23) C dX5_key_17 (by decide) (fun c17 => ?_) (fun c17 => ?_)
    · have c17 := b01_n c17
      refine v_aload_n C dX5_key_23 rfl rfl ?_
      refine v_aload_n C dX5_key_24 rfl rfl ?_
      refine v_get (v := .ref (ca 3)) C inX5_key_X5 0 hX rfl 3 (by decide) kwX5_key_19 rfl rfl dX5_key_25 ?_
      refine v_iload_n C dX5_key_28 rfl rfl ?_
      refine v_callVa C (hL3.get l (j := ja) hja) (cwV 1 C.1.2.2.2.2 gX5_key_Jx4a65c_get_915e3 rfl rfl rfl (by decide +kernel) ⟨by decide, by decide⟩) 3 0 hq3 rfl rfl rfl (Nat.le_of_ble_eq_true rfl) dX5_key_29 ⟨Nat.le_of_ble_eq_true rfl, Nat.le_of_ble_eq_true rfl⟩ (fun rq w1 hp => ?_)
      obtain ⟨rfl, hob⟩ := hp
      refine v_cast C kwX5_key_cl178 (pl 3 ja) hob rfl dX5_key_32 ?_
      refine v_iload_n C dX5_key_35 rfl rfl ?_
      refine v_iload C dX5_key_36 rfl ?_
      refine v_callVu C (c_X5_gatherKeys l E zw hC hb hs hw (hL3.pl hja) hob f t) (cwV 3 C.1.2.2.2.2 gX5_key_X5_gatherKeys rfl rfl rfl (by decide +kernel) ⟨by decide, by decide⟩) 0 6 hX rfl rfl rfl (Nat.le_of_ble_eq_true rfl) dX5_key_38 ⟨Nat.le_of_ble_eq_true rfl, Nat.le_of_ble_eq_true rfl⟩ (fun zw hp => ?_)
      obtain ⟨hs, hw, hF⟩ := hp
      have hC := hC.w hF
      have hX := hC.1
      have hlS := insN_len (inSp (ar 12) f t) (sNm ar) np
      obtain ⟨fw, g10, g11, hUw, hSw, hlw⟩ := id hw
      refine v_at (pc9 := 41) rfl ?_
      refine v_iload_n C dX5_key_41 rfl rfl ?_
      refine v_if_lt (tgt := 56) C dX5_key_42 (by decide) (fun c42 => ?_) (fun c42 => ?_)
      · rw [fa_lt, ti_0] at c42
        refine v_bipush (v := (-9)) C dX5_key_56 (by decide) ?_
        refine v_iret C hr dX5_key_58 (Nat.le_of_ble_eq_true rfl) (Nat.le_of_ble_eq_true rfl) ?_
        exact ⟨_, rfl, (by first
          | exact ⟨wFr.rf _, ⟨_, hs⟩, ⟨_, hw⟩, by first | (rw [if_neg c5]; done) | (rw [if_pos c5, if_neg c17]; done)⟩
          | exact ⟨hF, ⟨_, hs⟩, ⟨_, hw⟩, by rw [if_pos c5, if_pos c17, eja, if_neg (show ¬ (0 ≤ i0.toInt ∧ i0.toInt < (LK ar ja (insN (inSp (ar 12) f t) (sNm ar) np) (insN (inSp (ar 12) f t) (sNm ar) np).length).length) by omega)]⟩
          | exact ⟨hF, ⟨_, hs⟩, ⟨_, hw⟩, by rw [if_pos c5, if_pos c17, eja, if_pos (show 0 ≤ i0.toInt ∧ i0.toInt < (LK ar ja (insN (inSp (ar 12) f t) (sNm ar) np) (insN (inSp (ar 12) f t) (sNm ar) np).length).length by omega), clamp_of_toInt (n := i0.toInt.toNat) (by omega) (by omega), hUw _ (by omega)]; exact (List.getElem_eq_getD _)⟩)⟩
      · refine v_iload_n C dX5_key_45 rfl rfl ?_
        refine v_aload_n C dX5_key_46 rfl rfl ?_
        refine v_get (v := .ref (ca 10)) C inX5_key_X5 0 hX rfl 7 (by decide) kwX5_key_40 rfl rfl dX5_key_47 ?_
        refine v_getN C inX5_key_X1 rfl 10 g10 rfl 1 (by decide) (by decide +kernel) rfl dX5_key_50 ?_
        refine v_icmp_lt (tgt := 59) C dX5_key_53 (by decide) (fun c53 => ?_) (fun c53 => ?_)
        · rw [fa_lt, nI_toInt (by omega)] at c53
          rw [fa_lt, ti_0] at c42
          refine v_aload_n C dX5_key_59 rfl rfl ?_
          refine v_get (v := .ref (ca 10)) C inX5_key_X5 0 hX rfl 7 (by decide) kwX5_key_40 rfl rfl dX5_key_60 ?_
          refine v_getN C inX5_key_X1 rfl 10 g10 rfl 0 (by decide) (by decide +kernel) rfl dX5_key_63 ?_
          refine v_iload_n C dX5_key_66 rfl rfl ?_
          refine v_iald C 11 g11 (in_of (by omega) (by omega)) dX5_key_67 ?_
          refine v_iret C hr dX5_key_68 (Nat.le_of_ble_eq_true rfl) (Nat.le_of_ble_eq_true rfl) ?_
          exact ⟨_, rfl, (by first
            | exact ⟨wFr.rf _, ⟨_, hs⟩, ⟨_, hw⟩, by first | (rw [if_neg c5]; done) | (rw [if_pos c5, if_neg c17]; done)⟩
            | exact ⟨hF, ⟨_, hs⟩, ⟨_, hw⟩, by rw [if_pos c5, if_pos c17, eja, if_neg (show ¬ (0 ≤ i0.toInt ∧ i0.toInt < (LK ar ja (insN (inSp (ar 12) f t) (sNm ar) np) (insN (inSp (ar 12) f t) (sNm ar) np).length).length) by omega)]⟩
            | exact ⟨hF, ⟨_, hs⟩, ⟨_, hw⟩, by rw [if_pos c5, if_pos c17, eja, if_pos (show 0 ≤ i0.toInt ∧ i0.toInt < (LK ar ja (insN (inSp (ar 12) f t) (sNm ar) np) (insN (inSp (ar 12) f t) (sNm ar) np).length).length by omega), clamp_of_toInt (n := i0.toInt.toNat) (by omega) (by omega), hUw _ (by omega)]; exact (List.getElem_eq_getD _)⟩)⟩
        · rw [fa_lt, nI_toInt (by omega)] at c53
          rw [fa_lt, ti_0] at c42
          refine v_bipush (v := (-9)) C dX5_key_56 (by decide) ?_
          refine v_iret C hr dX5_key_58 (Nat.le_of_ble_eq_true rfl) (Nat.le_of_ble_eq_true rfl) ?_
          exact ⟨_, rfl, (by first
            | exact ⟨wFr.rf _, ⟨_, hs⟩, ⟨_, hw⟩, by first | (rw [if_neg c5]; done) | (rw [if_pos c5, if_neg c17]; done)⟩
            | exact ⟨hF, ⟨_, hs⟩, ⟨_, hw⟩, by rw [if_pos c5, if_pos c17, eja, if_neg (show ¬ (0 ≤ i0.toInt ∧ i0.toInt < (LK ar ja (insN (inSp (ar 12) f t) (sNm ar) np) (insN (inSp (ar 12) f t) (sNm ar) np).length).length) by omega)]⟩
            | exact ⟨hF, ⟨_, hs⟩, ⟨_, hw⟩, by rw [if_pos c5, if_pos c17, eja, if_pos (show 0 ≤ i0.toInt ∧ i0.toInt < (LK ar ja (insN (inSp (ar 12) f t) (sNm ar) np) (insN (inSp (ar 12) f t) (sNm ar) np).length).length by omega), clamp_of_toInt (n := i0.toInt.toNat) (by omega) (by omega), hUw _ (by omega)]; exact (List.getElem_eq_getD _)⟩)⟩
    · have c17 := b01_0 c17
      refine v_bipush (v := (-2)) C dX5_key_20 (by decide) ?_
      refine v_iret C hr dX5_key_22 (Nat.le_of_ble_eq_true rfl) (Nat.le_of_ble_eq_true rfl) ?_
      exact ⟨_, rfl, (by first
        | exact ⟨wFr.rf _, ⟨_, hs⟩, ⟨_, hw⟩, by first | (rw [if_neg c5]; done) | (rw [if_pos c5, if_neg c17]; done)⟩
        | exact ⟨hF, ⟨_, hs⟩, ⟨_, hw⟩, by rw [if_pos c5, if_pos c17, eja, if_neg (show ¬ (0 ≤ i0.toInt ∧ i0.toInt < (LK ar ja (insN (inSp (ar 12) f t) (sNm ar) np) (insN (inSp (ar 12) f t) (sNm ar) np).length).length) by omega)]⟩
        | exact ⟨hF, ⟨_, hs⟩, ⟨_, hw⟩, by rw [if_pos c5, if_pos c17, eja, if_pos (show 0 ≤ i0.toInt ∧ i0.toInt < (LK ar ja (insN (inSp (ar 12) f t) (sNm ar) np) (insN (inSp (ar 12) f t) (sNm ar) np).length).length by omega), clamp_of_toInt (n := i0.toInt.toNat) (by omega) (by omega), hUw _ (by omega)]; exact (List.getElem_eq_getD _)⟩)⟩
  · have c5 := b01_0 c5
    refine v_iconst (v := (-1)) C dX5_key_8 (by decide) ?_
    refine v_iret C hr dX5_key_9 (Nat.le_of_ble_eq_true rfl) (Nat.le_of_ble_eq_true rfl) ?_
    exact ⟨_, rfl, (by first
      | exact ⟨wFr.rf _, ⟨_, hs⟩, ⟨_, hw⟩, by first | (rw [if_neg c5]; done) | (rw [if_pos c5, if_neg c17]; done)⟩
      | exact ⟨hF, ⟨_, hs⟩, ⟨_, hw⟩, by rw [if_pos c5, if_pos c17, eja, if_neg (show ¬ (0 ≤ i0.toInt ∧ i0.toInt < (LK ar ja (insN (inSp (ar 12) f t) (sNm ar) np) (insN (inSp (ar 12) f t) (sNm ar) np).length).length) by omega)]⟩
      | exact ⟨hF, ⟨_, hs⟩, ⟨_, hw⟩, by rw [if_pos c5, if_pos c17, eja, if_pos (show 0 ≤ i0.toInt ∧ i0.toInt < (LK ar ja (insN (inSp (ar 12) f t) (sNm ar) np) (insN (inSp (ar 12) f t) (sNm ar) np).length).length by omega), clamp_of_toInt (n := i0.toInt.toNat) (by omega) (by omega), hUw _ (by omega)]; exact (List.getElem_eq_getD _)⟩)⟩
theorem inX5_lacks_X5 : ∀ x ∈ wsX50, x ∈ wsX5_lacks := by decide +kernel
theorem kwX5_lacks_19 : Cond.fieldLink RX5 19 "SeriesMarks" "askings" "Ljava/util/ArrayList;" ∈ wsX5_lacks := by decide +kernel
theorem kwX5_lacks_cl178 : Cond.classLink RX5 178 "SeriesMarks$Asking" ∈ wsX5_lacks := by decide +kernel
theorem inX5_lacks_X0 : ∀ x ∈ wsX00, x ∈ wsX5_lacks := by decide +kernel
set_option maxHeartbeats 4000000 in
set_option maxRecDepth 100000 in
theorem c_X5_lacks (l : Launch) (E : gE) (zw : va_W) {ca : Nat → Nat} {t0 : Int32} {ar : Nat → Nat → Int32} {dr ch : Nat → Int32} {ns np na : Nat} {qe : Nat → Nat} {pl : Nat → Nat → Nat} (hC : CF E ca zw t0 ar dr ch ns np na qe pl) (hb : ns ≤ 120 ∧ np ≤ 2000 ∧ na ≤ 10) {tk : Nat} (htk : t0 = nI tk) (htk9 : tk ≤ 199) (a0 f t : Int32) : CtI l yX5_lacks wsX5_lacks ({ frames := 3, cells := 0, slots := 0, locals := 64 }) E [.ref (ca 0), .int a0, .int f, .int t] zw (fun r w1 => zw = w1 ∧ r = if 0 ≤ a0.toInt ∧ a0.toInt < na then (if 0 ≤ t.toInt ∧ t.toInt ≤ t0.toInt ∧ 0 ≤ f.toInt ∧ f.toInt ≤ t.toInt then fiT (fun t => dr t &&& ar 18 a0.toNatClampNeg) (t.toNatClampNeg + 1 - f.toNatClampNeg) f.toNatClampNeg else (-2)) else (-1)) 0 0 := by
  refine Ct.of (cc := cX5_lacks) (nL := 4) (ret := (some .int)) (by decide) rfl (Nat.le_of_ble_eq_true rfl) ?_
  intro p e s m args below meth c C hr hnm
  refine v_eqlv (lv9 := [(0, .ref (ca 0)), (1, .int a0), (2, .int f), (3, .int t)]) rfl ?_
  obtain ⟨hX, h4, h5, h6, h7, hL1, hL2, hL3⟩ := id hC
  obtain ⟨fs1, hq1⟩ := hL1.cell
  obtain ⟨fs2, hq2⟩ := hL2.cell
  obtain ⟨fs3, hq3⟩ := hL3.cell
  have hti : t0.toInt = tk := by rw [htk, nI_toInt (by omega)]
  refine v_aload_n C dX5_lacks_0 rfl rfl ?_
  refine v_iload_n C dX5_lacks_1 rfl rfl ?_
  refine v_callVi C (c_X5_isAsking l E zw hC hb _) (cwV 1 C.1.2.2.2.2 gX5_lacks_X5_isAsking rfl rfl rfl (by decide +kernel) ⟨by decide, by decide⟩) 0 6 hX rfl rfl rfl (Nat.le_of_ble_eq_true rfl) dX5_lacks_2 ⟨Nat.le_of_ble_eq_true rfl, Nat.le_of_ble_eq_true rfl⟩ (fun r w1 hp => ?_)
  obtain ⟨rfl, hr9⟩ := hp
  rw [hr9]
  clear hr9
  refine v_if_ne (tgt := 10) C dX5_lacks_5 (by decide) (fun c5 => ?_) (fun c5 => ?_)
  · have c5 := b01_n c5
    obtain ⟨ja, hja, rfl⟩ := nI_ex c5.1 c5.2
    have eja := nI_clamp (n := ja) (by omega)
    refine v_aload_n C dX5_lacks_10 rfl rfl ?_
    refine v_iload_n C dX5_lacks_11 rfl rfl ?_
    refine v_iload_n C dX5_lacks_12 rfl rfl ?_
    refine v_callVi C (c_X5_isSpan l E zw hC hb _ _) (cwV 2 C.1.2.2.2.2 gX5_lacks_X5_isSpan rfl rfl rfl (by decide +kernel) ⟨by decide, by decide⟩) 0 6 hX rfl rfl rfl (Nat.le_of_ble_eq_true rfl) dX5_lacks_13 ⟨Nat.le_of_ble_eq_true rfl, Nat.le_of_ble_eq_true rfl⟩ (fun r w1 hp => ?_)
    obtain ⟨rfl, hr9⟩ := hp
    rw [hr9]
    clear hr9
    refine v_if_ne (tgt := 22) C dX5_lacks_16 (by decide) (fun c16 => ?_) (fun c16 => ?_)
    · have c16 := b01_n c16
      obtain ⟨tt, htt, rfl⟩ := nI_ex2 (n := 199) c16.1 (by omega)
      obtain ⟨ff, hff, rfl⟩ := nI_ex2 (n := tt) c16.2.2.1 (by have := nI_toInt (n := tt) (by omega); omega)
      have hz := nI_clamp (n := ff) (by omega)
      have hz2 := nI_clamp (n := tt) (by omega)
      refine v_aload_n C dX5_lacks_22 rfl rfl ?_
      refine v_aload_n C dX5_lacks_23 rfl rfl ?_
      refine v_get (v := .ref (ca 3)) C inX5_lacks_X5 0 hX rfl 3 (by decide) kwX5_lacks_19 rfl rfl dX5_lacks_24 ?_
      refine v_iload_n C dX5_lacks_27 rfl rfl ?_
      refine v_callVa C (hL3.get l (j := ja) hja) (cwV 1 C.1.2.2.2.2 gX5_lacks_Jx4a65c_get_915e3 rfl rfl rfl (by decide +kernel) ⟨by decide, by decide⟩) 3 0 hq3 rfl rfl rfl (Nat.le_of_ble_eq_true rfl) dX5_lacks_28 ⟨Nat.le_of_ble_eq_true rfl, Nat.le_of_ble_eq_true rfl⟩ (fun rq w1 hp => ?_)
      obtain ⟨rfl, hob⟩ := hp
      refine v_cast C kwX5_lacks_cl178 (pl 3 ja) hob rfl dX5_lacks_31 ?_
      refine v_getN C inX5_lacks_X0 rfl (pl 3 ja) hob rfl 0 (by decide) (by decide +kernel) rfl dX5_lacks_34 ?_
      refine v_iload_n C dX5_lacks_37 rfl rfl ?_
      refine v_iload_n C dX5_lacks_38 rfl rfl ?_
      refine v_at (pc9 := 39) rfl ?_
      refine v_callVi C (c_X5_firstLack l E zw hC hb _ hff htt) (cwV 3 C.1.2.2.2.2 gX5_lacks_X5_firstLack rfl rfl rfl (by decide +kernel) ⟨by decide, by decide⟩) 0 6 hX rfl rfl rfl (Nat.le_of_ble_eq_true rfl) dX5_lacks_39 ⟨Nat.le_of_ble_eq_true rfl, Nat.le_of_ble_eq_true rfl⟩ (fun r w1 hp => ?_)
      obtain ⟨rfl, hr9⟩ := hp
      rw [hr9]
      clear hr9
      refine v_iret C hr dX5_lacks_42 (Nat.le_of_ble_eq_true rfl) (Nat.le_of_ble_eq_true rfl) ?_
      exact ⟨_, rfl, ⟨rfl, by first | (rw [if_neg c5]; done) | (rw [if_pos c5, if_neg c16]; done) | (rw [if_pos c5, if_pos c16, eja, hz, hz2]; done)⟩⟩
    · have c16 := b01_0 c16
      refine v_bipush (v := (-2)) C dX5_lacks_19 (by decide) ?_
      refine v_iret C hr dX5_lacks_21 (Nat.le_of_ble_eq_true rfl) (Nat.le_of_ble_eq_true rfl) ?_
      exact ⟨_, rfl, ⟨rfl, by first | (rw [if_neg c5]; done) | (rw [if_pos c5, if_neg c16]; done) | (rw [if_pos c5, if_pos c16, eja, hz, hz2]; done)⟩⟩
  · have c5 := b01_0 c5
    refine v_iconst (v := (-1)) C dX5_lacks_8 (by decide) ?_
    refine v_iret C hr dX5_lacks_9 (Nat.le_of_ble_eq_true rfl) (Nat.le_of_ble_eq_true rfl) ?_
    exact ⟨_, rfl, ⟨rfl, by first | (rw [if_neg c5]; done) | (rw [if_pos c5, if_neg c16]; done) | (rw [if_pos c5, if_pos c16, eja, hz, hz2]; done)⟩⟩
theorem inX5_works_X5 : ∀ x ∈ wsX50, x ∈ wsX5_works := by decide +kernel
theorem kwX5_works_19 : Cond.fieldLink RX5 19 "SeriesMarks" "askings" "Ljava/util/ArrayList;" ∈ wsX5_works := by decide +kernel
theorem kwX5_works_cl178 : Cond.classLink RX5 178 "SeriesMarks$Asking" ∈ wsX5_works := by decide +kernel
theorem inX5_works_X0 : ∀ x ∈ wsX00, x ∈ wsX5_works := by decide +kernel
theorem kwX5_works_25 : Cond.fieldLink RX5 25 "SeriesMarks" "shortening" "LSeriesMarks$Shortening;" ∈ wsX5_works := by decide +kernel
set_option maxHeartbeats 4000000 in
set_option maxRecDepth 100000 in
theorem c_X5_works (l : Launch) (E : gE) (zw : va_W) {ca : Nat → Nat} {t0 : Int32} {ar : Nat → Nat → Int32} {dr ch : Nat → Int32} {ns np na : Nat} {qe : Nat → Nat} {pl : Nat → Nat → Nat} (hC : CF E ca zw t0 ar dr ch ns np na qe pl) (hb : ns ≤ 120 ∧ np ≤ 2000 ∧ na ≤ 10) {tk : Nat} (htk : t0 = nI tk) (htk9 : tk ≤ 199) (a0 f t : Int32) : CtI l yX5_works wsX5_works ({ frames := 3, cells := 0, slots := 0, locals := 64 }) E [.ref (ca 0), .int a0, .int f, .int t] zw (fun r w1 => zw = w1 ∧ r = if 0 ≤ a0.toInt ∧ a0.toInt < na then (if 0 ≤ t.toInt ∧ t.toInt ≤ t0.toInt ∧ 0 ≤ f.toInt ∧ f.toInt ≤ t.toInt then (if fiT (fun t => dr t &&& ar 18 a0.toNatClampNeg) (t.toNatClampNeg + 1 - f.toNatClampNeg) f.toNatClampNeg = (-9) then (if afC ch (ar 18 a0.toNatClampNeg) t.toNatClampNeg 6 0 = 0 then 2 else 1) else 0) else (-2)) else (-1)) 0 0 := by
  refine Ct.of (cc := cX5_works) (nL := 5) (ret := (some .int)) (by decide) rfl (Nat.le_of_ble_eq_true rfl) ?_
  intro p e s m args below meth c C hr hnm
  refine v_eqlv (lv9 := [(0, .ref (ca 0)), (1, .int a0), (2, .int f), (3, .int t)]) rfl ?_
  obtain ⟨hX, h4, h5, h6, h7, hL1, hL2, hL3⟩ := id hC
  obtain ⟨fs1, hq1⟩ := hL1.cell
  obtain ⟨fs2, hq2⟩ := hL2.cell
  obtain ⟨fs3, hq3⟩ := hL3.cell
  have hti : t0.toInt = tk := by rw [htk, nI_toInt (by omega)]
  refine v_aload_n C dX5_works_0 rfl rfl ?_
  refine v_iload_n C dX5_works_1 rfl rfl ?_
  refine v_callVi C (c_X5_isAsking l E zw hC hb _) (cwV 1 C.1.2.2.2.2 gX5_works_X5_isAsking rfl rfl rfl (by decide +kernel) ⟨by decide, by decide⟩) 0 6 hX rfl rfl rfl (Nat.le_of_ble_eq_true rfl) dX5_works_2 ⟨Nat.le_of_ble_eq_true rfl, Nat.le_of_ble_eq_true rfl⟩ (fun r w1 hp => ?_)
  obtain ⟨rfl, hr9⟩ := hp
  rw [hr9]
  clear hr9
  refine v_if_ne (tgt := 10) C dX5_works_5 (by decide) (fun c5 => ?_) (fun c5 => ?_)
  · have c5 := b01_n c5
    obtain ⟨ja, hja, rfl⟩ := nI_ex c5.1 c5.2
    have eja := nI_clamp (n := ja) (by omega)
    refine v_aload_n C dX5_works_10 rfl rfl ?_
    refine v_iload_n C dX5_works_11 rfl rfl ?_
    refine v_iload_n C dX5_works_12 rfl rfl ?_
    refine v_callVi C (c_X5_isSpan l E zw hC hb _ _) (cwV 2 C.1.2.2.2.2 gX5_works_X5_isSpan rfl rfl rfl (by decide +kernel) ⟨by decide, by decide⟩) 0 6 hX rfl rfl rfl (Nat.le_of_ble_eq_true rfl) dX5_works_13 ⟨Nat.le_of_ble_eq_true rfl, Nat.le_of_ble_eq_true rfl⟩ (fun r w1 hp => ?_)
    obtain ⟨rfl, hr9⟩ := hp
    rw [hr9]
    clear hr9
    refine v_if_ne (tgt := 22) C dX5_works_16 (by decide) (fun c16 => ?_) (fun c16 => ?_)
    · have c16 := b01_n c16
      obtain ⟨tt, htt, rfl⟩ := nI_ex2 (n := 199) c16.1 (by omega)
      obtain ⟨ff, hff, rfl⟩ := nI_ex2 (n := tt) c16.2.2.1 (by have := nI_toInt (n := tt) (by omega); omega)
      have hz := nI_clamp (n := ff) (by omega)
      have hz2 := nI_clamp (n := tt) (by omega)
      refine v_aload_n C dX5_works_22 rfl rfl ?_
      refine v_get (v := .ref (ca 3)) C inX5_works_X5 0 hX rfl 3 (by decide) kwX5_works_19 rfl rfl dX5_works_23 ?_
      refine v_iload_n C dX5_works_26 rfl rfl ?_
      refine v_callVa C (hL3.get l (j := ja) hja) (cwV 1 C.1.2.2.2.2 gX5_works_Jx4a65c_get_915e3 rfl rfl rfl (by decide +kernel) ⟨by decide, by decide⟩) 3 0 hq3 rfl rfl rfl (Nat.le_of_ble_eq_true rfl) dX5_works_27 ⟨Nat.le_of_ble_eq_true rfl, Nat.le_of_ble_eq_true rfl⟩ (fun rq w1 hp => ?_)
      obtain ⟨rfl, hob⟩ := hp
      refine v_cast C kwX5_works_cl178 (pl 3 ja) hob rfl dX5_works_30 ?_
      refine v_getN C inX5_works_X0 rfl (pl 3 ja) hob rfl 0 (by decide) (by decide +kernel) rfl dX5_works_33 ?_
      refine v_istore C dX5_works_36 (by decide) rfl ?_
      refine v_aload_n C dX5_works_38 rfl rfl ?_
      refine v_iload C dX5_works_39 rfl ?_
      refine v_at (pc9 := 41) rfl ?_
      refine v_iload_n C dX5_works_41 rfl rfl ?_
      refine v_iload_n C dX5_works_42 rfl rfl ?_
      refine v_callVi C (c_X5_firstLack l E zw hC hb _ hff htt) (cwV 3 C.1.2.2.2.2 gX5_works_X5_firstLack rfl rfl rfl (by decide +kernel) ⟨by decide, by decide⟩) 0 6 hX rfl rfl rfl (Nat.le_of_ble_eq_true rfl) dX5_works_43 ⟨Nat.le_of_ble_eq_true rfl, Nat.le_of_ble_eq_true rfl⟩ (fun r w1 hp => ?_)
      obtain ⟨rfl, hr9⟩ := hp
      rw [hr9]
      clear hr9
      refine v_bipush (v := (-9)) C dX5_works_46 (by decide) ?_
      refine v_icmp_eq (tgt := 53) C dX5_works_48 (by decide) (fun c48 => ?_) (fun c48 => ?_)
      · refine v_aload_n C dX5_works_53 rfl rfl ?_
        refine v_get (v := .ref (ca 4)) C inX5_works_X5 0 hX rfl 4 (by decide) kwX5_works_25 rfl rfl dX5_works_54 ?_
        refine v_iload C dX5_works_57 rfl ?_
        refine v_iload_n C dX5_works_59 rfl rfl ?_
        refine v_callVi C (c_X4_isAnyFolded l E zw h4 h5 h6 _ htt) (cwV 2 C.1.2.2.2.2 gX5_works_X4_isAnyFolded rfl rfl rfl (by decide +kernel) ⟨by decide, by decide⟩) 4 5 h4 rfl rfl rfl (Nat.le_of_ble_eq_true rfl) dX5_works_60 ⟨Nat.le_of_ble_eq_true rfl, Nat.le_of_ble_eq_true rfl⟩ (fun r w1 hp => ?_)
        obtain ⟨rfl, hr9⟩ := hp
        rw [hr9]
        clear hr9
        refine v_if_eq (tgt := 70) C dX5_works_63 (by decide) (fun c63 => ?_) (fun c63 => ?_)
        · refine v_iconst (v := 2) C dX5_works_70 (by decide) ?_
          refine v_iret C hr dX5_works_71 (Nat.le_of_ble_eq_true rfl) (Nat.le_of_ble_eq_true rfl) ?_
          exact ⟨_, rfl, ⟨rfl, by first | (rw [if_neg c5]; done) | (rw [if_pos c5, if_neg c16]; done) | (rw [if_pos c5, if_pos c16, eja, hz, hz2, if_neg c48]; done) | (rw [if_pos c5, if_pos c16, eja, hz, hz2, if_pos c48, if_pos c63]; done) | (rw [if_pos c5, if_pos c16, eja, hz, hz2, if_pos c48, if_neg c63]; done)⟩⟩
        · refine v_iconst (v := 1) C dX5_works_66 (by decide) ?_
          refine v_goto (tgt := 71) C dX5_works_67 (by decide) ?_
          refine v_iret C hr dX5_works_71 (Nat.le_of_ble_eq_true rfl) (Nat.le_of_ble_eq_true rfl) ?_
          exact ⟨_, rfl, ⟨rfl, by first | (rw [if_neg c5]; done) | (rw [if_pos c5, if_neg c16]; done) | (rw [if_pos c5, if_pos c16, eja, hz, hz2, if_neg c48]; done) | (rw [if_pos c5, if_pos c16, eja, hz, hz2, if_pos c48, if_pos c63]; done) | (rw [if_pos c5, if_pos c16, eja, hz, hz2, if_pos c48, if_neg c63]; done)⟩⟩
      · refine v_iconst (v := 0) C dX5_works_51 (by decide) ?_
        refine v_iret C hr dX5_works_52 (Nat.le_of_ble_eq_true rfl) (Nat.le_of_ble_eq_true rfl) ?_
        exact ⟨_, rfl, ⟨rfl, by first | (rw [if_neg c5]; done) | (rw [if_pos c5, if_neg c16]; done) | (rw [if_pos c5, if_pos c16, eja, hz, hz2, if_neg c48]; done) | (rw [if_pos c5, if_pos c16, eja, hz, hz2, if_pos c48, if_pos c63]; done) | (rw [if_pos c5, if_pos c16, eja, hz, hz2, if_pos c48, if_neg c63]; done)⟩⟩
    · have c16 := b01_0 c16
      refine v_bipush (v := (-2)) C dX5_works_19 (by decide) ?_
      refine v_iret C hr dX5_works_21 (Nat.le_of_ble_eq_true rfl) (Nat.le_of_ble_eq_true rfl) ?_
      exact ⟨_, rfl, ⟨rfl, by first | (rw [if_neg c5]; done) | (rw [if_pos c5, if_neg c16]; done) | (rw [if_pos c5, if_pos c16, eja, hz, hz2, if_neg c48]; done) | (rw [if_pos c5, if_pos c16, eja, hz, hz2, if_pos c48, if_pos c63]; done) | (rw [if_pos c5, if_pos c16, eja, hz, hz2, if_pos c48, if_neg c63]; done)⟩⟩
  · have c5 := b01_0 c5
    refine v_iconst (v := (-1)) C dX5_works_8 (by decide) ?_
    refine v_iret C hr dX5_works_9 (Nat.le_of_ble_eq_true rfl) (Nat.le_of_ble_eq_true rfl) ?_
    exact ⟨_, rfl, ⟨rfl, by first | (rw [if_neg c5]; done) | (rw [if_pos c5, if_neg c16]; done) | (rw [if_pos c5, if_pos c16, eja, hz, hz2, if_neg c48]; done) | (rw [if_pos c5, if_pos c16, eja, hz, hz2, if_pos c48, if_pos c63]; done) | (rw [if_pos c5, if_pos c16, eja, hz, hz2, if_pos c48, if_neg c63]; done)⟩⟩
set_option maxHeartbeats 4000000 in
set_option maxRecDepth 100000 in
theorem lp_X5_plan {p : Program} {l : Launch} {e : Env} {s : State} {m : MethodId} {args : Array Value} {below : List Frame} {meth : Method} {c : Code} {Q : State → Prop} {E : gE} {w0 : va_W} (C : gC p s m args meth c E cX5_plan 11 wsX5_plan yX5_plan.cls) {ca : Nat → Nat} {t0 : Int32} {ar : Nat → Nat → Int32} {dr ch : Nat → Int32} {ns np na : Nat} {qe : Nat → Nat} {pl : Nat → Nat → Nat} (hb : ns ≤ 120 ∧ np ≤ 2000 ∧ na ≤ 10) {most f t : Int32} {L : List Int32} (hK : ∀ (zw : va_W) (L1 : List Int32), CF E ca zw t0 ar dr ch ns np na qe pl → wFr w0 zw → cS E ca zw 8 L → cS E ca zw 10 L1 → V p l e ({ frames := 5, cells := 0, slots := 0, locals := 111 }) s m args below meth c E 11 zw 0 0 Q 128 [(0, .ref (ca 0)), (1, .int most), (2, .int f), (3, .int t), (4, .int (plS (fun m => uL L (nI m)) (fun m => lsB (lsA (ar 22) (nI m) 6) (ar 18) (ar 21) (nI m) na) most 64).1), (5, .int (plS (fun m => uL L (nI m)) (fun m => lsB (lsA (ar 22) (nI m) 6) (ar 18) (ar 21) (nI m) na) most 64).2.1), (6, .int (plS (fun m => uL L (nI m)) (fun m => lsB (lsA (ar 22) (nI m) 6) (ar 18) (ar 21) (nI m) na) most 64).2.2), (7, .int (nI 64))] []) : ∀ n i : Nat, i + n = 64 → ∀ (zw : va_W) (L1 : List Int32), CF E ca zw t0 ar dr ch ns np na qe pl → wFr w0 zw → cS E ca zw 8 L → cS E ca zw 10 L1 → V p l e ({ frames := 5, cells := 0, slots := 0, locals := 111 }) s m args below meth c E 11 zw 0 0 Q 41 [(0, .ref (ca 0)), (1, .int most), (2, .int f), (3, .int t), (4, .int (plS (fun m => uL L (nI m)) (fun m => lsB (lsA (ar 22) (nI m) 6) (ar 18) (ar 21) (nI m) na) most i).1), (5, .int (plS (fun m => uL L (nI m)) (fun m => lsB (lsA (ar 22) (nI m) 6) (ar 18) (ar 21) (nI m) na) most i).2.1), (6, .int (plS (fun m => uL L (nI m)) (fun m => lsB (lsA (ar 22) (nI m) 6) (ar 18) (ar 21) (nI m) na) most i).2.2), (7, .int (nI i))] [] := by
  intro n
  induction n with
  | zero =>
    intro i hi zw L1 hC hF hs hw
    obtain rfl : i = 64 := by omega
    obtain ⟨hX, h4, h5, h6, h7, hL1, hL2, hL3⟩ := id hC
    obtain ⟨fs1, hq1⟩ := hL1.cell
    obtain ⟨fs2, hq2⟩ := hL2.cell
    obtain ⟨fs3, hq3⟩ := hL3.cell
    refine v_iload C dX5_plan_41 rfl ?_
    refine v_bipush (v := 63) C dX5_plan_43 (by decide) ?_
    refine v_icmp_gt (tgt := 128) C dX5_plan_45 (by decide) (fun c45 => ?_) (fun c45 => absurd (by rw [fa_lt, ti_63, nI_toInt (by omega)]; omega) c45)
    exact hK zw L1 hC hF hs hw
  | succ n ih =>
    intro i hi zw L1 hC hF hs hw
    obtain ⟨hX, h4, h5, h6, h7, hL1, hL2, hL3⟩ := id hC
    obtain ⟨fs1, hq1⟩ := hL1.cell
    obtain ⟨fs2, hq2⟩ := hL2.cell
    obtain ⟨fs3, hq3⟩ := hL3.cell
    refine v_iload C dX5_plan_41 rfl ?_
    refine v_bipush (v := 63) C dX5_plan_43 (by decide) ?_
    refine v_icmp_gt (tgt := 128) C dX5_plan_45 (by decide) (fun c45 => absurd c45 (by rw [fa_lt, ti_63, nI_toInt (by omega)]; omega)) (fun c45 => ?_)
    refine v_aload_n C dX5_plan_48 rfl rfl ?_
    refine v_iload C dX5_plan_49 rfl ?_
    refine v_callVi C (c_X5_namesLeftWithout l E zw hC hb hs hw (nI i)) (cwV 1 C.1.2.2.2.2 gX5_plan_X5_namesLeftWithout rfl rfl rfl (by decide +kernel) ⟨by decide, by decide⟩) 0 6 hX rfl rfl rfl (Nat.le_of_ble_eq_true rfl) dX5_plan_51 ⟨Nat.le_of_ble_eq_true rfl, Nat.le_of_ble_eq_true rfl⟩ (fun r zw hp => ?_)
    obtain ⟨hw, hF10, hr9⟩ := hp
    have hr9 : r = uL L (nI i) := hr9
    rw [hr9]
    clear hr9
    have hC := hC.n hF10 (by decide) (by decide)
    have hs := hs.keep (hF10.2 8 (by decide) (by decide)) (hF10.2 9 (by decide) (by decide))
    have hF := hF.tr (wFr.n10 hF10)
    have hX := hC.1
    refine v_istore C dX5_plan_54 (by decide) rfl ?_
    refine v_aload_n C dX5_plan_56 rfl rfl ?_
    refine v_iload C dX5_plan_57 rfl ?_
    refine v_at (pc9 := 59) rfl ?_
    refine v_callVi C (c_X5_lossOf l E zw hC hb _) (cwV 1 C.1.2.2.2.2 gX5_plan_X5_lossOf rfl rfl rfl (by decide +kernel) ⟨by decide, by decide⟩) 0 6 hX rfl rfl rfl (Nat.le_of_ble_eq_true rfl) dX5_plan_59 ⟨Nat.le_of_ble_eq_true rfl, Nat.le_of_ble_eq_true rfl⟩ (fun r w1 hp => ?_)
    obtain ⟨rfl, hr9⟩ := hp
    rw [hr9]
    clear hr9
    refine v_istore C dX5_plan_62 (by decide) rfl ?_
    refine v_iload C dX5_plan_64 rfl ?_
    refine v_bipush (v := (-9)) C dX5_plan_66 (by decide) ?_
    refine v_icmp_eq (tgt := 92) C dX5_plan_68 (by decide) (fun c68 => ?_) (fun c68 => ?_)
    · have hj : ((plS (fun m => uL L (nI m)) (fun m => lsB (lsA (ar 22) (nI m) 6) (ar 18) (ar 21) (nI m) na) most i).1 = (-9) ∨ (fun m => lsB (lsA (ar 22) (nI m) 6) (ar 18) (ar 21) (nI m) na) i < (plS (fun m => uL L (nI m)) (fun m => lsB (lsA (ar 22) (nI m) 6) (ar 18) (ar 21) (nI m) na) most i).2.1 ∨ ((fun m => lsB (lsA (ar 22) (nI m) 6) (ar 18) (ar 21) (nI m) na) i = (plS (fun m => uL L (nI m)) (fun m => lsB (lsA (ar 22) (nI m) 6) (ar 18) (ar 21) (nI m) na) most i).2.1 ∧ (plS (fun m => uL L (nI m)) (fun m => lsB (lsA (ar 22) (nI m) 6) (ar 18) (ar 21) (nI m) na) most i).2.2 < (fun m => uL L (nI m)) i)) := Or.inl c68
      refine v_iconst (v := 1) C dX5_plan_92 (by decide) ?_
      refine v_goto (tgt := 97) C dX5_plan_93 (by decide) ?_
      refine v_istore C dX5_plan_97 (by decide) rfl ?_
      refine v_iload C dX5_plan_99 rfl ?_
      refine v_iload_n C dX5_plan_101 rfl rfl ?_
      refine v_icmp_gt (tgt := 122) C dX5_plan_102 (by decide) (fun c102 => ?_) (fun c102 => ?_)
      · have e9 : ¬ ((fun m => uL L (nI m)) i ≤ most ∧ ((plS (fun m => uL L (nI m)) (fun m => lsB (lsA (ar 22) (nI m) 6) (ar 18) (ar 21) (nI m) na) most i).1 = (-9) ∨ (fun m => lsB (lsA (ar 22) (nI m) 6) (ar 18) (ar 21) (nI m) na) i < (plS (fun m => uL L (nI m)) (fun m => lsB (lsA (ar 22) (nI m) 6) (ar 18) (ar 21) (nI m) na) most i).2.1 ∨ ((fun m => lsB (lsA (ar 22) (nI m) 6) (ar 18) (ar 21) (nI m) na) i = (plS (fun m => uL L (nI m)) (fun m => lsB (lsA (ar 22) (nI m) 6) (ar 18) (ar 21) (nI m) na) most i).2.1 ∧ (plS (fun m => uL L (nI m)) (fun m => lsB (lsA (ar 22) (nI m) 6) (ar 18) (ar 21) (nI m) na) most i).2.2 < (fun m => uL L (nI m)) i))) := fun h => by
          have h2 := h.1
          rw [fa_le] at h2
          rw [fa_lt] at c102
          exact absurd h2 (Int.not_le.mpr c102)
        refine v_pick (lv9 := [(0, .ref (ca 0)), (1, .int most), (2, .int f), (3, .int t), (4, .int (plS (fun m => uL L (nI m)) (fun m => lsB (lsA (ar 22) (nI m) 6) (ar 18) (ar 21) (nI m) na) most (i + 1)).1), (5, .int (plS (fun m => uL L (nI m)) (fun m => lsB (lsA (ar 22) (nI m) 6) (ar 18) (ar 21) (nI m) na) most (i + 1)).2.1), (6, .int (plS (fun m => uL L (nI m)) (fun m => lsB (lsA (ar 22) (nI m) 6) (ar 18) (ar 21) (nI m) na) most (i + 1)).2.2), (7, .int (nI i))]) ⟨rfl, rfl, rfl, rfl, by rw [plS_s, if_neg e9]; rfl, by rw [plS_s, if_neg e9]; rfl, by rw [plS_s, if_neg e9]; rfl, rfl, trivial⟩ ?_
        refine v_iincN C dX5_plan_122 rfl (by decide) rfl ?_
        refine v_goto (tgt := 41) C dX5_plan_125 (by decide) ?_
        exact ih (i + 1) (by omega) zw _ hC hF hs hw
      · have e9 : ((fun m => uL L (nI m)) i ≤ most ∧ ((plS (fun m => uL L (nI m)) (fun m => lsB (lsA (ar 22) (nI m) 6) (ar 18) (ar 21) (nI m) na) most i).1 = (-9) ∨ (fun m => lsB (lsA (ar 22) (nI m) 6) (ar 18) (ar 21) (nI m) na) i < (plS (fun m => uL L (nI m)) (fun m => lsB (lsA (ar 22) (nI m) 6) (ar 18) (ar 21) (nI m) na) most i).2.1 ∨ ((fun m => lsB (lsA (ar 22) (nI m) 6) (ar 18) (ar 21) (nI m) na) i = (plS (fun m => uL L (nI m)) (fun m => lsB (lsA (ar 22) (nI m) 6) (ar 18) (ar 21) (nI m) na) most i).2.1 ∧ (plS (fun m => uL L (nI m)) (fun m => lsB (lsA (ar 22) (nI m) 6) (ar 18) (ar 21) (nI m) na) most i).2.2 < (fun m => uL L (nI m)) i))) := ⟨by rw [fa_le]; rw [fa_lt] at c102; exact Int.not_lt.mp c102, hj⟩
        refine v_iload C dX5_plan_105 rfl ?_
        refine v_if_eq (tgt := 122) C dX5_plan_107 (by decide) (fun c107 => absurd c107 (by decide)) (fun c107 => ?_)
        refine v_iload C dX5_plan_110 rfl ?_
        refine v_istore C dX5_plan_112 (by decide) rfl ?_
        refine v_iload C dX5_plan_114 rfl ?_
        refine v_istore C dX5_plan_116 (by decide) rfl ?_
        refine v_iload C dX5_plan_118 rfl ?_
        refine v_istore C dX5_plan_120 (by decide) rfl ?_
        refine v_pick (lv9 := [(0, .ref (ca 0)), (1, .int most), (2, .int f), (3, .int t), (4, .int (plS (fun m => uL L (nI m)) (fun m => lsB (lsA (ar 22) (nI m) 6) (ar 18) (ar 21) (nI m) na) most (i + 1)).1), (5, .int (plS (fun m => uL L (nI m)) (fun m => lsB (lsA (ar 22) (nI m) 6) (ar 18) (ar 21) (nI m) na) most (i + 1)).2.1), (6, .int (plS (fun m => uL L (nI m)) (fun m => lsB (lsA (ar 22) (nI m) 6) (ar 18) (ar 21) (nI m) na) most (i + 1)).2.2), (7, .int (nI i))]) ⟨rfl, rfl, rfl, rfl, by rw [plS_s, if_pos e9]; rfl, by rw [plS_s, if_pos e9]; rfl, by rw [plS_s, if_pos e9]; rfl, rfl, trivial⟩ ?_
        refine v_iincN C dX5_plan_122 rfl (by decide) rfl ?_
        refine v_goto (tgt := 41) C dX5_plan_125 (by decide) ?_
        exact ih (i + 1) (by omega) zw _ hC hF hs hw
    · refine v_iload C dX5_plan_71 rfl ?_
      refine v_iload C dX5_plan_73 rfl ?_
      refine v_icmp_lt (tgt := 92) C dX5_plan_75 (by decide) (fun c75 => ?_) (fun c75 => ?_)
      · have hj : ((plS (fun m => uL L (nI m)) (fun m => lsB (lsA (ar 22) (nI m) 6) (ar 18) (ar 21) (nI m) na) most i).1 = (-9) ∨ (fun m => lsB (lsA (ar 22) (nI m) 6) (ar 18) (ar 21) (nI m) na) i < (plS (fun m => uL L (nI m)) (fun m => lsB (lsA (ar 22) (nI m) 6) (ar 18) (ar 21) (nI m) na) most i).2.1 ∨ ((fun m => lsB (lsA (ar 22) (nI m) 6) (ar 18) (ar 21) (nI m) na) i = (plS (fun m => uL L (nI m)) (fun m => lsB (lsA (ar 22) (nI m) 6) (ar 18) (ar 21) (nI m) na) most i).2.1 ∧ (plS (fun m => uL L (nI m)) (fun m => lsB (lsA (ar 22) (nI m) 6) (ar 18) (ar 21) (nI m) na) most i).2.2 < (fun m => uL L (nI m)) i)) := Or.inr (Or.inl c75)
        refine v_iconst (v := 1) C dX5_plan_92 (by decide) ?_
        refine v_goto (tgt := 97) C dX5_plan_93 (by decide) ?_
        refine v_istore C dX5_plan_97 (by decide) rfl ?_
        refine v_iload C dX5_plan_99 rfl ?_
        refine v_iload_n C dX5_plan_101 rfl rfl ?_
        refine v_icmp_gt (tgt := 122) C dX5_plan_102 (by decide) (fun c102 => ?_) (fun c102 => ?_)
        · have e9 : ¬ ((fun m => uL L (nI m)) i ≤ most ∧ ((plS (fun m => uL L (nI m)) (fun m => lsB (lsA (ar 22) (nI m) 6) (ar 18) (ar 21) (nI m) na) most i).1 = (-9) ∨ (fun m => lsB (lsA (ar 22) (nI m) 6) (ar 18) (ar 21) (nI m) na) i < (plS (fun m => uL L (nI m)) (fun m => lsB (lsA (ar 22) (nI m) 6) (ar 18) (ar 21) (nI m) na) most i).2.1 ∨ ((fun m => lsB (lsA (ar 22) (nI m) 6) (ar 18) (ar 21) (nI m) na) i = (plS (fun m => uL L (nI m)) (fun m => lsB (lsA (ar 22) (nI m) 6) (ar 18) (ar 21) (nI m) na) most i).2.1 ∧ (plS (fun m => uL L (nI m)) (fun m => lsB (lsA (ar 22) (nI m) 6) (ar 18) (ar 21) (nI m) na) most i).2.2 < (fun m => uL L (nI m)) i))) := fun h => by
            have h2 := h.1
            rw [fa_le] at h2
            rw [fa_lt] at c102
            exact absurd h2 (Int.not_le.mpr c102)
          refine v_pick (lv9 := [(0, .ref (ca 0)), (1, .int most), (2, .int f), (3, .int t), (4, .int (plS (fun m => uL L (nI m)) (fun m => lsB (lsA (ar 22) (nI m) 6) (ar 18) (ar 21) (nI m) na) most (i + 1)).1), (5, .int (plS (fun m => uL L (nI m)) (fun m => lsB (lsA (ar 22) (nI m) 6) (ar 18) (ar 21) (nI m) na) most (i + 1)).2.1), (6, .int (plS (fun m => uL L (nI m)) (fun m => lsB (lsA (ar 22) (nI m) 6) (ar 18) (ar 21) (nI m) na) most (i + 1)).2.2), (7, .int (nI i))]) ⟨rfl, rfl, rfl, rfl, by rw [plS_s, if_neg e9]; rfl, by rw [plS_s, if_neg e9]; rfl, by rw [plS_s, if_neg e9]; rfl, rfl, trivial⟩ ?_
          refine v_iincN C dX5_plan_122 rfl (by decide) rfl ?_
          refine v_goto (tgt := 41) C dX5_plan_125 (by decide) ?_
          exact ih (i + 1) (by omega) zw _ hC hF hs hw
        · have e9 : ((fun m => uL L (nI m)) i ≤ most ∧ ((plS (fun m => uL L (nI m)) (fun m => lsB (lsA (ar 22) (nI m) 6) (ar 18) (ar 21) (nI m) na) most i).1 = (-9) ∨ (fun m => lsB (lsA (ar 22) (nI m) 6) (ar 18) (ar 21) (nI m) na) i < (plS (fun m => uL L (nI m)) (fun m => lsB (lsA (ar 22) (nI m) 6) (ar 18) (ar 21) (nI m) na) most i).2.1 ∨ ((fun m => lsB (lsA (ar 22) (nI m) 6) (ar 18) (ar 21) (nI m) na) i = (plS (fun m => uL L (nI m)) (fun m => lsB (lsA (ar 22) (nI m) 6) (ar 18) (ar 21) (nI m) na) most i).2.1 ∧ (plS (fun m => uL L (nI m)) (fun m => lsB (lsA (ar 22) (nI m) 6) (ar 18) (ar 21) (nI m) na) most i).2.2 < (fun m => uL L (nI m)) i))) := ⟨by rw [fa_le]; rw [fa_lt] at c102; exact Int.not_lt.mp c102, hj⟩
          refine v_iload C dX5_plan_105 rfl ?_
          refine v_if_eq (tgt := 122) C dX5_plan_107 (by decide) (fun c107 => absurd c107 (by decide)) (fun c107 => ?_)
          refine v_iload C dX5_plan_110 rfl ?_
          refine v_istore C dX5_plan_112 (by decide) rfl ?_
          refine v_iload C dX5_plan_114 rfl ?_
          refine v_istore C dX5_plan_116 (by decide) rfl ?_
          refine v_iload C dX5_plan_118 rfl ?_
          refine v_istore C dX5_plan_120 (by decide) rfl ?_
          refine v_pick (lv9 := [(0, .ref (ca 0)), (1, .int most), (2, .int f), (3, .int t), (4, .int (plS (fun m => uL L (nI m)) (fun m => lsB (lsA (ar 22) (nI m) 6) (ar 18) (ar 21) (nI m) na) most (i + 1)).1), (5, .int (plS (fun m => uL L (nI m)) (fun m => lsB (lsA (ar 22) (nI m) 6) (ar 18) (ar 21) (nI m) na) most (i + 1)).2.1), (6, .int (plS (fun m => uL L (nI m)) (fun m => lsB (lsA (ar 22) (nI m) 6) (ar 18) (ar 21) (nI m) na) most (i + 1)).2.2), (7, .int (nI i))]) ⟨rfl, rfl, rfl, rfl, by rw [plS_s, if_pos e9]; rfl, by rw [plS_s, if_pos e9]; rfl, by rw [plS_s, if_pos e9]; rfl, rfl, trivial⟩ ?_
          refine v_iincN C dX5_plan_122 rfl (by decide) rfl ?_
          refine v_goto (tgt := 41) C dX5_plan_125 (by decide) ?_
          exact ih (i + 1) (by omega) zw _ hC hF hs hw
      · refine v_iload C dX5_plan_78 rfl ?_
        refine v_iload C dX5_plan_80 rfl ?_
        refine v_icmp_ne (tgt := 96) C dX5_plan_82 (by decide) (fun c82 => ?_) (fun c82 => ?_)
        · have hj : ¬ ((plS (fun m => uL L (nI m)) (fun m => lsB (lsA (ar 22) (nI m) 6) (ar 18) (ar 21) (nI m) na) most i).1 = (-9) ∨ (fun m => lsB (lsA (ar 22) (nI m) 6) (ar 18) (ar 21) (nI m) na) i < (plS (fun m => uL L (nI m)) (fun m => lsB (lsA (ar 22) (nI m) 6) (ar 18) (ar 21) (nI m) na) most i).2.1 ∨ ((fun m => lsB (lsA (ar 22) (nI m) 6) (ar 18) (ar 21) (nI m) na) i = (plS (fun m => uL L (nI m)) (fun m => lsB (lsA (ar 22) (nI m) 6) (ar 18) (ar 21) (nI m) na) most i).2.1 ∧ (plS (fun m => uL L (nI m)) (fun m => lsB (lsA (ar 22) (nI m) 6) (ar 18) (ar 21) (nI m) na) most i).2.2 < (fun m => uL L (nI m)) i)) := fun h => h.elim c68 (fun h => h.elim c75 (fun h => c82 h.1))
          refine v_iconst (v := 0) C dX5_plan_96 (by decide) ?_
          refine v_istore C dX5_plan_97 (by decide) rfl ?_
          refine v_iload C dX5_plan_99 rfl ?_
          refine v_iload_n C dX5_plan_101 rfl rfl ?_
          refine v_icmp_gt (tgt := 122) C dX5_plan_102 (by decide) (fun c102 => ?_) (fun c102 => ?_)
          · have e9 : ¬ ((fun m => uL L (nI m)) i ≤ most ∧ ((plS (fun m => uL L (nI m)) (fun m => lsB (lsA (ar 22) (nI m) 6) (ar 18) (ar 21) (nI m) na) most i).1 = (-9) ∨ (fun m => lsB (lsA (ar 22) (nI m) 6) (ar 18) (ar 21) (nI m) na) i < (plS (fun m => uL L (nI m)) (fun m => lsB (lsA (ar 22) (nI m) 6) (ar 18) (ar 21) (nI m) na) most i).2.1 ∨ ((fun m => lsB (lsA (ar 22) (nI m) 6) (ar 18) (ar 21) (nI m) na) i = (plS (fun m => uL L (nI m)) (fun m => lsB (lsA (ar 22) (nI m) 6) (ar 18) (ar 21) (nI m) na) most i).2.1 ∧ (plS (fun m => uL L (nI m)) (fun m => lsB (lsA (ar 22) (nI m) 6) (ar 18) (ar 21) (nI m) na) most i).2.2 < (fun m => uL L (nI m)) i))) := fun h => by
              have h2 := h.1
              rw [fa_le] at h2
              rw [fa_lt] at c102
              exact absurd h2 (Int.not_le.mpr c102)
            refine v_pick (lv9 := [(0, .ref (ca 0)), (1, .int most), (2, .int f), (3, .int t), (4, .int (plS (fun m => uL L (nI m)) (fun m => lsB (lsA (ar 22) (nI m) 6) (ar 18) (ar 21) (nI m) na) most (i + 1)).1), (5, .int (plS (fun m => uL L (nI m)) (fun m => lsB (lsA (ar 22) (nI m) 6) (ar 18) (ar 21) (nI m) na) most (i + 1)).2.1), (6, .int (plS (fun m => uL L (nI m)) (fun m => lsB (lsA (ar 22) (nI m) 6) (ar 18) (ar 21) (nI m) na) most (i + 1)).2.2), (7, .int (nI i))]) ⟨rfl, rfl, rfl, rfl, by rw [plS_s, if_neg e9]; rfl, by rw [plS_s, if_neg e9]; rfl, by rw [plS_s, if_neg e9]; rfl, rfl, trivial⟩ ?_
            refine v_iincN C dX5_plan_122 rfl (by decide) rfl ?_
            refine v_goto (tgt := 41) C dX5_plan_125 (by decide) ?_
            exact ih (i + 1) (by omega) zw _ hC hF hs hw
          · have e9 : ¬ ((fun m => uL L (nI m)) i ≤ most ∧ ((plS (fun m => uL L (nI m)) (fun m => lsB (lsA (ar 22) (nI m) 6) (ar 18) (ar 21) (nI m) na) most i).1 = (-9) ∨ (fun m => lsB (lsA (ar 22) (nI m) 6) (ar 18) (ar 21) (nI m) na) i < (plS (fun m => uL L (nI m)) (fun m => lsB (lsA (ar 22) (nI m) 6) (ar 18) (ar 21) (nI m) na) most i).2.1 ∨ ((fun m => lsB (lsA (ar 22) (nI m) 6) (ar 18) (ar 21) (nI m) na) i = (plS (fun m => uL L (nI m)) (fun m => lsB (lsA (ar 22) (nI m) 6) (ar 18) (ar 21) (nI m) na) most i).2.1 ∧ (plS (fun m => uL L (nI m)) (fun m => lsB (lsA (ar 22) (nI m) 6) (ar 18) (ar 21) (nI m) na) most i).2.2 < (fun m => uL L (nI m)) i))) := fun h => hj h.2
            refine v_iload C dX5_plan_105 rfl ?_
            refine v_if_eq (tgt := 122) C dX5_plan_107 (by decide) (fun c107 => ?_) (fun c107 => absurd rfl c107)
            refine v_pick (lv9 := [(0, .ref (ca 0)), (1, .int most), (2, .int f), (3, .int t), (4, .int (plS (fun m => uL L (nI m)) (fun m => lsB (lsA (ar 22) (nI m) 6) (ar 18) (ar 21) (nI m) na) most (i + 1)).1), (5, .int (plS (fun m => uL L (nI m)) (fun m => lsB (lsA (ar 22) (nI m) 6) (ar 18) (ar 21) (nI m) na) most (i + 1)).2.1), (6, .int (plS (fun m => uL L (nI m)) (fun m => lsB (lsA (ar 22) (nI m) 6) (ar 18) (ar 21) (nI m) na) most (i + 1)).2.2), (7, .int (nI i))]) ⟨rfl, rfl, rfl, rfl, by rw [plS_s, if_neg e9]; rfl, by rw [plS_s, if_neg e9]; rfl, by rw [plS_s, if_neg e9]; rfl, rfl, trivial⟩ ?_
            refine v_iincN C dX5_plan_122 rfl (by decide) rfl ?_
            refine v_goto (tgt := 41) C dX5_plan_125 (by decide) ?_
            exact ih (i + 1) (by omega) zw _ hC hF hs hw
        · refine v_iload C dX5_plan_85 rfl ?_
          refine v_iload C dX5_plan_87 rfl ?_
          refine v_icmp_le (tgt := 96) C dX5_plan_89 (by decide) (fun c89 => ?_) (fun c89 => ?_)
          · have hj : ¬ ((plS (fun m => uL L (nI m)) (fun m => lsB (lsA (ar 22) (nI m) 6) (ar 18) (ar 21) (nI m) na) most i).1 = (-9) ∨ (fun m => lsB (lsA (ar 22) (nI m) 6) (ar 18) (ar 21) (nI m) na) i < (plS (fun m => uL L (nI m)) (fun m => lsB (lsA (ar 22) (nI m) 6) (ar 18) (ar 21) (nI m) na) most i).2.1 ∨ ((fun m => lsB (lsA (ar 22) (nI m) 6) (ar 18) (ar 21) (nI m) na) i = (plS (fun m => uL L (nI m)) (fun m => lsB (lsA (ar 22) (nI m) 6) (ar 18) (ar 21) (nI m) na) most i).2.1 ∧ (plS (fun m => uL L (nI m)) (fun m => lsB (lsA (ar 22) (nI m) 6) (ar 18) (ar 21) (nI m) na) most i).2.2 < (fun m => uL L (nI m)) i)) := fun h => h.elim c68 (fun h => h.elim c75 (fun h => by
              have h2 := h.2
              rw [fa_lt] at h2
              rw [fa_le] at c89
              exact absurd h2 (Int.not_lt.mpr c89)))
            refine v_iconst (v := 0) C dX5_plan_96 (by decide) ?_
            refine v_istore C dX5_plan_97 (by decide) rfl ?_
            refine v_iload C dX5_plan_99 rfl ?_
            refine v_iload_n C dX5_plan_101 rfl rfl ?_
            refine v_icmp_gt (tgt := 122) C dX5_plan_102 (by decide) (fun c102 => ?_) (fun c102 => ?_)
            · have e9 : ¬ ((fun m => uL L (nI m)) i ≤ most ∧ ((plS (fun m => uL L (nI m)) (fun m => lsB (lsA (ar 22) (nI m) 6) (ar 18) (ar 21) (nI m) na) most i).1 = (-9) ∨ (fun m => lsB (lsA (ar 22) (nI m) 6) (ar 18) (ar 21) (nI m) na) i < (plS (fun m => uL L (nI m)) (fun m => lsB (lsA (ar 22) (nI m) 6) (ar 18) (ar 21) (nI m) na) most i).2.1 ∨ ((fun m => lsB (lsA (ar 22) (nI m) 6) (ar 18) (ar 21) (nI m) na) i = (plS (fun m => uL L (nI m)) (fun m => lsB (lsA (ar 22) (nI m) 6) (ar 18) (ar 21) (nI m) na) most i).2.1 ∧ (plS (fun m => uL L (nI m)) (fun m => lsB (lsA (ar 22) (nI m) 6) (ar 18) (ar 21) (nI m) na) most i).2.2 < (fun m => uL L (nI m)) i))) := fun h => by
                have h2 := h.1
                rw [fa_le] at h2
                rw [fa_lt] at c102
                exact absurd h2 (Int.not_le.mpr c102)
              refine v_pick (lv9 := [(0, .ref (ca 0)), (1, .int most), (2, .int f), (3, .int t), (4, .int (plS (fun m => uL L (nI m)) (fun m => lsB (lsA (ar 22) (nI m) 6) (ar 18) (ar 21) (nI m) na) most (i + 1)).1), (5, .int (plS (fun m => uL L (nI m)) (fun m => lsB (lsA (ar 22) (nI m) 6) (ar 18) (ar 21) (nI m) na) most (i + 1)).2.1), (6, .int (plS (fun m => uL L (nI m)) (fun m => lsB (lsA (ar 22) (nI m) 6) (ar 18) (ar 21) (nI m) na) most (i + 1)).2.2), (7, .int (nI i))]) ⟨rfl, rfl, rfl, rfl, by rw [plS_s, if_neg e9]; rfl, by rw [plS_s, if_neg e9]; rfl, by rw [plS_s, if_neg e9]; rfl, rfl, trivial⟩ ?_
              refine v_iincN C dX5_plan_122 rfl (by decide) rfl ?_
              refine v_goto (tgt := 41) C dX5_plan_125 (by decide) ?_
              exact ih (i + 1) (by omega) zw _ hC hF hs hw
            · have e9 : ¬ ((fun m => uL L (nI m)) i ≤ most ∧ ((plS (fun m => uL L (nI m)) (fun m => lsB (lsA (ar 22) (nI m) 6) (ar 18) (ar 21) (nI m) na) most i).1 = (-9) ∨ (fun m => lsB (lsA (ar 22) (nI m) 6) (ar 18) (ar 21) (nI m) na) i < (plS (fun m => uL L (nI m)) (fun m => lsB (lsA (ar 22) (nI m) 6) (ar 18) (ar 21) (nI m) na) most i).2.1 ∨ ((fun m => lsB (lsA (ar 22) (nI m) 6) (ar 18) (ar 21) (nI m) na) i = (plS (fun m => uL L (nI m)) (fun m => lsB (lsA (ar 22) (nI m) 6) (ar 18) (ar 21) (nI m) na) most i).2.1 ∧ (plS (fun m => uL L (nI m)) (fun m => lsB (lsA (ar 22) (nI m) 6) (ar 18) (ar 21) (nI m) na) most i).2.2 < (fun m => uL L (nI m)) i))) := fun h => hj h.2
              refine v_iload C dX5_plan_105 rfl ?_
              refine v_if_eq (tgt := 122) C dX5_plan_107 (by decide) (fun c107 => ?_) (fun c107 => absurd rfl c107)
              refine v_pick (lv9 := [(0, .ref (ca 0)), (1, .int most), (2, .int f), (3, .int t), (4, .int (plS (fun m => uL L (nI m)) (fun m => lsB (lsA (ar 22) (nI m) 6) (ar 18) (ar 21) (nI m) na) most (i + 1)).1), (5, .int (plS (fun m => uL L (nI m)) (fun m => lsB (lsA (ar 22) (nI m) 6) (ar 18) (ar 21) (nI m) na) most (i + 1)).2.1), (6, .int (plS (fun m => uL L (nI m)) (fun m => lsB (lsA (ar 22) (nI m) 6) (ar 18) (ar 21) (nI m) na) most (i + 1)).2.2), (7, .int (nI i))]) ⟨rfl, rfl, rfl, rfl, by rw [plS_s, if_neg e9]; rfl, by rw [plS_s, if_neg e9]; rfl, by rw [plS_s, if_neg e9]; rfl, rfl, trivial⟩ ?_
              refine v_iincN C dX5_plan_122 rfl (by decide) rfl ?_
              refine v_goto (tgt := 41) C dX5_plan_125 (by decide) ?_
              exact ih (i + 1) (by omega) zw _ hC hF hs hw
          · have hj : ((plS (fun m => uL L (nI m)) (fun m => lsB (lsA (ar 22) (nI m) 6) (ar 18) (ar 21) (nI m) na) most i).1 = (-9) ∨ (fun m => lsB (lsA (ar 22) (nI m) 6) (ar 18) (ar 21) (nI m) na) i < (plS (fun m => uL L (nI m)) (fun m => lsB (lsA (ar 22) (nI m) 6) (ar 18) (ar 21) (nI m) na) most i).2.1 ∨ ((fun m => lsB (lsA (ar 22) (nI m) 6) (ar 18) (ar 21) (nI m) na) i = (plS (fun m => uL L (nI m)) (fun m => lsB (lsA (ar 22) (nI m) 6) (ar 18) (ar 21) (nI m) na) most i).2.1 ∧ (plS (fun m => uL L (nI m)) (fun m => lsB (lsA (ar 22) (nI m) 6) (ar 18) (ar 21) (nI m) na) most i).2.2 < (fun m => uL L (nI m)) i)) := Or.inr (Or.inr ⟨c82, by
              rw [fa_lt]
              rw [fa_le] at c89
              exact Int.not_le.mp c89⟩)
            refine v_iconst (v := 1) C dX5_plan_92 (by decide) ?_
            refine v_goto (tgt := 97) C dX5_plan_93 (by decide) ?_
            refine v_istore C dX5_plan_97 (by decide) rfl ?_
            refine v_iload C dX5_plan_99 rfl ?_
            refine v_iload_n C dX5_plan_101 rfl rfl ?_
            refine v_icmp_gt (tgt := 122) C dX5_plan_102 (by decide) (fun c102 => ?_) (fun c102 => ?_)
            · have e9 : ¬ ((fun m => uL L (nI m)) i ≤ most ∧ ((plS (fun m => uL L (nI m)) (fun m => lsB (lsA (ar 22) (nI m) 6) (ar 18) (ar 21) (nI m) na) most i).1 = (-9) ∨ (fun m => lsB (lsA (ar 22) (nI m) 6) (ar 18) (ar 21) (nI m) na) i < (plS (fun m => uL L (nI m)) (fun m => lsB (lsA (ar 22) (nI m) 6) (ar 18) (ar 21) (nI m) na) most i).2.1 ∨ ((fun m => lsB (lsA (ar 22) (nI m) 6) (ar 18) (ar 21) (nI m) na) i = (plS (fun m => uL L (nI m)) (fun m => lsB (lsA (ar 22) (nI m) 6) (ar 18) (ar 21) (nI m) na) most i).2.1 ∧ (plS (fun m => uL L (nI m)) (fun m => lsB (lsA (ar 22) (nI m) 6) (ar 18) (ar 21) (nI m) na) most i).2.2 < (fun m => uL L (nI m)) i))) := fun h => by
                have h2 := h.1
                rw [fa_le] at h2
                rw [fa_lt] at c102
                exact absurd h2 (Int.not_le.mpr c102)
              refine v_pick (lv9 := [(0, .ref (ca 0)), (1, .int most), (2, .int f), (3, .int t), (4, .int (plS (fun m => uL L (nI m)) (fun m => lsB (lsA (ar 22) (nI m) 6) (ar 18) (ar 21) (nI m) na) most (i + 1)).1), (5, .int (plS (fun m => uL L (nI m)) (fun m => lsB (lsA (ar 22) (nI m) 6) (ar 18) (ar 21) (nI m) na) most (i + 1)).2.1), (6, .int (plS (fun m => uL L (nI m)) (fun m => lsB (lsA (ar 22) (nI m) 6) (ar 18) (ar 21) (nI m) na) most (i + 1)).2.2), (7, .int (nI i))]) ⟨rfl, rfl, rfl, rfl, by rw [plS_s, if_neg e9]; rfl, by rw [plS_s, if_neg e9]; rfl, by rw [plS_s, if_neg e9]; rfl, rfl, trivial⟩ ?_
              refine v_iincN C dX5_plan_122 rfl (by decide) rfl ?_
              refine v_goto (tgt := 41) C dX5_plan_125 (by decide) ?_
              exact ih (i + 1) (by omega) zw _ hC hF hs hw
            · have e9 : ((fun m => uL L (nI m)) i ≤ most ∧ ((plS (fun m => uL L (nI m)) (fun m => lsB (lsA (ar 22) (nI m) 6) (ar 18) (ar 21) (nI m) na) most i).1 = (-9) ∨ (fun m => lsB (lsA (ar 22) (nI m) 6) (ar 18) (ar 21) (nI m) na) i < (plS (fun m => uL L (nI m)) (fun m => lsB (lsA (ar 22) (nI m) 6) (ar 18) (ar 21) (nI m) na) most i).2.1 ∨ ((fun m => lsB (lsA (ar 22) (nI m) 6) (ar 18) (ar 21) (nI m) na) i = (plS (fun m => uL L (nI m)) (fun m => lsB (lsA (ar 22) (nI m) 6) (ar 18) (ar 21) (nI m) na) most i).2.1 ∧ (plS (fun m => uL L (nI m)) (fun m => lsB (lsA (ar 22) (nI m) 6) (ar 18) (ar 21) (nI m) na) most i).2.2 < (fun m => uL L (nI m)) i))) := ⟨by rw [fa_le]; rw [fa_lt] at c102; exact Int.not_lt.mp c102, hj⟩
              refine v_iload C dX5_plan_105 rfl ?_
              refine v_if_eq (tgt := 122) C dX5_plan_107 (by decide) (fun c107 => absurd c107 (by decide)) (fun c107 => ?_)
              refine v_iload C dX5_plan_110 rfl ?_
              refine v_istore C dX5_plan_112 (by decide) rfl ?_
              refine v_iload C dX5_plan_114 rfl ?_
              refine v_istore C dX5_plan_116 (by decide) rfl ?_
              refine v_iload C dX5_plan_118 rfl ?_
              refine v_istore C dX5_plan_120 (by decide) rfl ?_
              refine v_pick (lv9 := [(0, .ref (ca 0)), (1, .int most), (2, .int f), (3, .int t), (4, .int (plS (fun m => uL L (nI m)) (fun m => lsB (lsA (ar 22) (nI m) 6) (ar 18) (ar 21) (nI m) na) most (i + 1)).1), (5, .int (plS (fun m => uL L (nI m)) (fun m => lsB (lsA (ar 22) (nI m) 6) (ar 18) (ar 21) (nI m) na) most (i + 1)).2.1), (6, .int (plS (fun m => uL L (nI m)) (fun m => lsB (lsA (ar 22) (nI m) 6) (ar 18) (ar 21) (nI m) na) most (i + 1)).2.2), (7, .int (nI i))]) ⟨rfl, rfl, rfl, rfl, by rw [plS_s, if_pos e9]; rfl, by rw [plS_s, if_pos e9]; rfl, by rw [plS_s, if_pos e9]; rfl, rfl, trivial⟩ ?_
              refine v_iincN C dX5_plan_122 rfl (by decide) rfl ?_
              refine v_goto (tgt := 41) C dX5_plan_125 (by decide) ?_
              exact ih (i + 1) (by omega) zw _ hC hF hs hw
set_option maxHeartbeats 4000000 in
set_option maxRecDepth 100000 in
theorem c_X5_plan (l : Launch) (E : gE) (zw : va_W) {ca : Nat → Nat} {t0 : Int32} {ar : Nat → Nat → Int32} {dr ch : Nat → Int32} {ns np na : Nat} {qe : Nat → Nat} {pl : Nat → Nat → Nat} (hC : CF E ca zw t0 ar dr ch ns np na qe pl) (hb : ns ≤ 120 ∧ np ≤ 2000 ∧ na ≤ 10) {L0 L1 : List Int32} (hs : cS E ca zw 8 L0) (hw : cS E ca zw 10 L1) (most f t : Int32) : CtI l yX5_plan wsX5_plan ({ frames := 5, cells := 0, slots := 0, locals := 111 }) E [.ref (ca 0), .int most, .int f, .int t] zw (fun r w1 => wFr zw w1 ∧ (∃ L, cS E ca w1 8 L) ∧ (∃ L, cS E ca w1 10 L) ∧ r = if (0 ≤ most.toInt ∧ most.toInt ≤ 120) ∧ (0 ≤ t.toInt ∧ t.toInt ≤ t0.toInt ∧ 0 ≤ f.toInt ∧ f.toInt ≤ t.toInt) then (plS (fun m => uL (insN (inSp (ar 12) f t) (sNm ar) np) (nI m)) (fun m => lsB (lsA (ar 22) (nI m) 6) (ar 18) (ar 21) (nI m) na) most 64).1 else (-2)) 0 0 := by
  refine Ct.of (cc := cX5_plan) (nL := 11) (ret := (some .int)) (by decide) rfl (Nat.le_of_ble_eq_true rfl) ?_
  intro p e s m args below meth c C hr hnm
  refine v_eqlv (lv9 := [(0, .ref (ca 0)), (1, .int most), (2, .int f), (3, .int t)]) rfl ?_
  obtain ⟨hX, h4, h5, h6, h7, hL1, hL2, hL3⟩ := id hC
  obtain ⟨fs1, hq1⟩ := hL1.cell
  obtain ⟨fs2, hq2⟩ := hL2.cell
  obtain ⟨fs3, hq3⟩ := hL3.cell
  refine v_iload_n C dX5_plan_0 rfl rfl ?_
  refine v_if_lt (tgt := 19) C dX5_plan_1 (by decide) (fun c1 => ?_) (fun c1 => ?_)
  · rw [fa_lt, ti_0] at c1
    refine v_bipush (v := (-2)) C dX5_plan_19 (by decide) ?_
    refine v_iret C hr dX5_plan_21 (Nat.le_of_ble_eq_true rfl) (Nat.le_of_ble_eq_true rfl) ?_
    exact ⟨_, rfl, (by first | exact ⟨wFr.rf _, ⟨_, hs⟩, ⟨_, hw⟩, by first | (rw [if_neg (show ¬ ((0 ≤ most.toInt ∧ most.toInt ≤ 120) ∧ (0 ≤ t.toInt ∧ t.toInt ≤ t0.toInt ∧ 0 ≤ f.toInt ∧ f.toInt ≤ t.toInt)) from fun h => by omega)]; done) | (rw [if_neg (fun h => c16 h.2)]; done)⟩ | exact ⟨hF, ⟨_, hs⟩, ⟨_, hw⟩, by rw [if_pos ⟨(show 0 ≤ most.toInt ∧ most.toInt ≤ 120 by omega), c16⟩]; done⟩)⟩
  · rw [fa_lt, ti_0] at c1
    refine v_iload_n C dX5_plan_4 rfl rfl ?_
    refine v_bipush (v := 120) C dX5_plan_5 (by decide) ?_
    refine v_icmp_gt (tgt := 19) C dX5_plan_7 (by decide) (fun c7 => ?_) (fun c7 => ?_)
    · rw [fa_lt, ti_120] at c7
      refine v_bipush (v := (-2)) C dX5_plan_19 (by decide) ?_
      refine v_iret C hr dX5_plan_21 (Nat.le_of_ble_eq_true rfl) (Nat.le_of_ble_eq_true rfl) ?_
      exact ⟨_, rfl, (by first | exact ⟨wFr.rf _, ⟨_, hs⟩, ⟨_, hw⟩, by first | (rw [if_neg (show ¬ ((0 ≤ most.toInt ∧ most.toInt ≤ 120) ∧ (0 ≤ t.toInt ∧ t.toInt ≤ t0.toInt ∧ 0 ≤ f.toInt ∧ f.toInt ≤ t.toInt)) from fun h => by omega)]; done) | (rw [if_neg (fun h => c16 h.2)]; done)⟩ | exact ⟨hF, ⟨_, hs⟩, ⟨_, hw⟩, by rw [if_pos ⟨(show 0 ≤ most.toInt ∧ most.toInt ≤ 120 by omega), c16⟩]; done⟩)⟩
    · rw [fa_lt, ti_120] at c7
      refine v_aload_n C dX5_plan_10 rfl rfl ?_
      refine v_iload_n C dX5_plan_11 rfl rfl ?_
      refine v_iload_n C dX5_plan_12 rfl rfl ?_
      refine v_callVi C (c_X5_isSpan l E zw hC hb _ _) (cwV 2 C.1.2.2.2.2 gX5_plan_X5_isSpan rfl rfl rfl (by decide +kernel) ⟨by decide, by decide⟩) 0 6 hX rfl rfl rfl (Nat.le_of_ble_eq_true rfl) dX5_plan_13 ⟨Nat.le_of_ble_eq_true rfl, Nat.le_of_ble_eq_true rfl⟩ (fun r w1 hp => ?_)
      obtain ⟨rfl, hr9⟩ := hp
      rw [hr9]
      clear hr9
      refine v_if_ne (tgt := 22) C dX5_plan_16 (by decide) (fun c16 => ?_) (fun c16 => ?_)
      · have c16 := b01_n c16
        refine v_aload_n C dX5_plan_22 rfl rfl ?_
        refine v_iload_n C dX5_plan_23 rfl rfl ?_
        refine v_iload_n C dX5_plan_24 rfl rfl ?_
        refine v_callVu C (c_X5_gatherSeen l E zw hC hb hs f t) (cwV 2 C.1.2.2.2.2 gX5_plan_X5_gatherSeen rfl rfl rfl (by decide +kernel) ⟨by decide, by decide⟩) 0 6 hX rfl rfl rfl (Nat.le_of_ble_eq_true rfl) dX5_plan_25 ⟨Nat.le_of_ble_eq_true rfl, Nat.le_of_ble_eq_true rfl⟩ (fun zw hp => ?_)
        obtain ⟨hs, hF8⟩ := hp
        have hC := hC.n hF8 (by decide) (by decide)
        have hw := hw.keep (hF8.2 10 (by decide) (by decide)) (hF8.2 11 (by decide) (by decide))
        have hF := wFr.n8 hF8
        have hX := hC.1
        have hlS := insN_len (inSp (ar 12) f t) (sNm ar) np
        obtain ⟨fz, g8, g9, hU, hS, hl⟩ := id hs
        refine v_bipush (v := (-9)) C dX5_plan_28 (by decide) ?_
        refine v_istore C dX5_plan_30 (by decide) rfl ?_
        refine v_iconst (v := 0) C dX5_plan_32 (by decide) ?_
        refine v_istore C dX5_plan_33 (by decide) rfl ?_
        refine v_iconst (v := 0) C dX5_plan_35 (by decide) ?_
        refine v_at (pc9 := 36) rfl ?_
        refine v_istore C dX5_plan_36 (by decide) rfl ?_
        refine v_iconst (v := 0) C dX5_plan_38 (by decide) ?_
        refine v_tov nI_0.symm ?_
        refine v_istore C dX5_plan_39 (by decide) rfl ?_
        refine lp_X5_plan C hb ?_ 64 0 rfl zw _ hC hF hs hw
        intro zw L1 hC hF hs hw
        refine v_iload C dX5_plan_128 rfl ?_
        refine v_iret C hr dX5_plan_130 (Nat.le_of_ble_eq_true rfl) (Nat.le_of_ble_eq_true rfl) ?_
        exact ⟨_, rfl, (by first | exact ⟨wFr.rf _, ⟨_, hs⟩, ⟨_, hw⟩, by first | (rw [if_neg (show ¬ ((0 ≤ most.toInt ∧ most.toInt ≤ 120) ∧ (0 ≤ t.toInt ∧ t.toInt ≤ t0.toInt ∧ 0 ≤ f.toInt ∧ f.toInt ≤ t.toInt)) from fun h => by omega)]; done) | (rw [if_neg (fun h => c16 h.2)]; done)⟩ | exact ⟨hF, ⟨_, hs⟩, ⟨_, hw⟩, by rw [if_pos ⟨(show 0 ≤ most.toInt ∧ most.toInt ≤ 120 by omega), c16⟩]; done⟩)⟩
      · have c16 := b01_0 c16
        refine v_bipush (v := (-2)) C dX5_plan_19 (by decide) ?_
        refine v_iret C hr dX5_plan_21 (Nat.le_of_ble_eq_true rfl) (Nat.le_of_ble_eq_true rfl) ?_
        exact ⟨_, rfl, (by first | exact ⟨wFr.rf _, ⟨_, hs⟩, ⟨_, hw⟩, by first | (rw [if_neg (show ¬ ((0 ≤ most.toInt ∧ most.toInt ≤ 120) ∧ (0 ≤ t.toInt ∧ t.toInt ≤ t0.toInt ∧ 0 ≤ f.toInt ∧ f.toInt ≤ t.toInt)) from fun h => by omega)]; done) | (rw [if_neg (fun h => c16 h.2)]; done)⟩ | exact ⟨hF, ⟨_, hs⟩, ⟨_, hw⟩, by rw [if_pos ⟨(show 0 ≤ most.toInt ∧ most.toInt ≤ 120 by omega), c16⟩]; done⟩)⟩
theorem inX5_bill_X5 : ∀ x ∈ wsX50, x ∈ wsX5_bill := by decide +kernel
theorem kwX5_bill_36 : Cond.fieldLink RX5 36 "SeriesMarks" "seenNames" "LSeriesMarks$NameSet;" ∈ wsX5_bill := by decide +kernel
theorem inX5_bill_X1 : ∀ x ∈ wsX10, x ∈ wsX5_bill := by decide +kernel
set_option maxHeartbeats 4000000 in
set_option maxRecDepth 100000 in
theorem lp_X5_bill {p : Program} {l : Launch} {e : Env} {s : State} {m : MethodId} {args : Array Value} {below : List Frame} {meth : Method} {c : Code} {Q : State → Prop} {E : gE} {zw : va_W} (C : gC p s m args meth c E cX5_bill 7 wsX5_bill yX5_bill.cls) {ca : Nat → Nat} {t0 : Int32} {ar : Nat → Nat → Int32} {dr ch : Nat → Int32} {ns np na : Nat} {qe : Nat → Nat} {pl : Nat → Nat → Nat} (hC : CF E ca zw t0 ar dr ch ns np na qe pl) (hb : ns ≤ 120 ∧ np ≤ 2000 ∧ na ≤ 10) {mk v f t : Int32} {L : List Int32} (hs : cS E ca zw 8 L) (hK : V p l e ({ frames := 5, cells := 0, slots := 0, locals := 111 }) s m args below meth c E 7 zw 0 0 Q 81 [(0, .ref (ca 0)), (1, .int mk), (2, .int v), (3, .int f), (4, .int t), (5, .int (cnI (fun j => decide (dgt (L.getD j 0) mk = v)) L.length)), (6, .int (nI L.length))] []) : ∀ n i : Nat, i + n = L.length → V p l e ({ frames := 5, cells := 0, slots := 0, locals := 111 }) s m args below meth c E 7 zw 0 0 Q 42 [(0, .ref (ca 0)), (1, .int mk), (2, .int v), (3, .int f), (4, .int t), (5, .int (cnI (fun j => decide (dgt (L.getD j 0) mk = v)) i)), (6, .int (nI i))] [] := by
  obtain ⟨hX, h4, h5, h6, h7, hL1, hL2, hL3⟩ := id hC
  obtain ⟨fs1, hq1⟩ := hL1.cell
  obtain ⟨fs2, hq2⟩ := hL2.cell
  obtain ⟨fs3, hq3⟩ := hL3.cell
  obtain ⟨fz, g8, g9, hU, hS, hl⟩ := id hs
  intro n
  induction n with
  | zero =>
    intro i hi
    obtain rfl : i = L.length := by omega
    refine v_iload C dX5_bill_42 rfl ?_
    refine v_aload_n C dX5_bill_44 rfl rfl ?_
    refine v_get (v := .ref (ca 8)) C inX5_bill_X5 0 hX rfl 6 (by decide) kwX5_bill_36 rfl rfl dX5_bill_45 ?_
    refine v_getN C inX5_bill_X1 rfl 8 g8 rfl 1 (by decide) (by decide +kernel) rfl dX5_bill_48 ?_
    refine v_icmp_ge (tgt := 81) C dX5_bill_51 (by decide) (fun c51 => ?_) (fun c51 => absurd (nI_le (Nat.le_refl _) (by omega)) c51)
    exact hK
  | succ n ih =>
    intro i hi
    refine v_iload C dX5_bill_42 rfl ?_
    refine v_aload_n C dX5_bill_44 rfl rfl ?_
    refine v_get (v := .ref (ca 8)) C inX5_bill_X5 0 hX rfl 6 (by decide) kwX5_bill_36 rfl rfl dX5_bill_45 ?_
    refine v_getN C inX5_bill_X1 rfl 8 g8 rfl 1 (by decide) (by decide +kernel) rfl dX5_bill_48 ?_
    refine v_icmp_ge (tgt := 81) C dX5_bill_51 (by decide) (fun c51 => absurd c51 (nI_ge (by omega) (by omega))) (fun c51 => ?_)
    refine v_aload_n C dX5_bill_54 rfl rfl ?_
    refine v_get (v := .ref (ca 8)) C inX5_bill_X5 0 hX rfl 6 (by decide) kwX5_bill_36 rfl rfl dX5_bill_55 ?_
    refine v_getN C inX5_bill_X1 rfl 8 g8 rfl 0 (by decide) (by decide +kernel) rfl dX5_bill_58 ?_
    refine v_iload C dX5_bill_61 rfl ?_
    refine v_at (pc9 := 63) rfl ?_
    refine v_iald C 9 g9 (vp_in_nI (by omega) (by decide)) dX5_bill_63 ?_
    refine v_tov (ul_getD hU (by omega) hl) ?_
    refine v_iload_n C dX5_bill_64 rfl rfl ?_
    refine v_callSi C (c_X5_digit l E zw _ _ ) (va_cwS 2 C.1.2.2.2.2 gX5_bill_X5_digit rfl rfl rfl (by decide +kernel) ⟨by decide, by decide⟩) rfl rfl (Nat.le_of_ble_eq_true rfl) dX5_bill_65 ⟨Nat.le_of_ble_eq_true rfl, Nat.le_of_ble_eq_true rfl⟩ (fun r w1 hp => ?_)
    obtain ⟨rfl, hr9⟩ := hp
    rw [hr9]
    clear hr9
    refine v_iload_n C dX5_bill_68 rfl rfl ?_
    refine v_icmp_ne (tgt := 75) C dX5_bill_69 (by decide) (fun c69 => ?_) (fun c69 => ?_)
    · have e9 : decide (dgt (L.getD i 0) mk = v) = false := decide_eq_false c69
      refine v_pick (lv9 := [(0, .ref (ca 0)), (1, .int mk), (2, .int v), (3, .int f), (4, .int t), (5, .int (cnI (fun j => decide (dgt (L.getD j 0) mk = v)) (i + 1))), (6, .int (nI i))]) ⟨rfl, rfl, rfl, rfl, rfl, by first | (rw [cnI_t9 (p := fun j => decide (dgt (L.getD j 0) mk = v)) e9]; rfl) | (rw [cnI_f9 (p := fun j => decide (dgt (L.getD j 0) mk = v)) e9]; rfl), rfl, trivial⟩ ?_
      refine v_iincN C dX5_bill_75 rfl (by decide) rfl ?_
      refine v_goto (tgt := 42) C dX5_bill_78 (by decide) ?_
      exact ih (i + 1) (by omega)
    · have e9 : decide (dgt (L.getD i 0) mk = v) = true := decide_eq_true c69
      refine v_iinc (d := 1) C dX5_bill_72 (by decide) rfl (by decide) rfl ?_
      refine v_pick (lv9 := [(0, .ref (ca 0)), (1, .int mk), (2, .int v), (3, .int f), (4, .int t), (5, .int (cnI (fun j => decide (dgt (L.getD j 0) mk = v)) (i + 1))), (6, .int (nI i))]) ⟨rfl, rfl, rfl, rfl, rfl, by first | (rw [cnI_t9 (p := fun j => decide (dgt (L.getD j 0) mk = v)) e9]; rfl) | (rw [cnI_f9 (p := fun j => decide (dgt (L.getD j 0) mk = v)) e9]; rfl), rfl, trivial⟩ ?_
      refine v_iincN C dX5_bill_75 rfl (by decide) rfl ?_
      refine v_goto (tgt := 42) C dX5_bill_78 (by decide) ?_
      exact ih (i + 1) (by omega)
set_option maxHeartbeats 4000000 in
set_option maxRecDepth 100000 in
theorem c_X5_bill (l : Launch) (E : gE) (zw : va_W) {ca : Nat → Nat} {t0 : Int32} {ar : Nat → Nat → Int32} {dr ch : Nat → Int32} {ns np na : Nat} {qe : Nat → Nat} {pl : Nat → Nat → Nat} (hC : CF E ca zw t0 ar dr ch ns np na qe pl) (hb : ns ≤ 120 ∧ np ≤ 2000 ∧ na ≤ 10) {L0 L1 : List Int32} (hs : cS E ca zw 8 L0) (hw : cS E ca zw 10 L1) (mk v f t : Int32) : CtI l yX5_bill wsX5_bill ({ frames := 5, cells := 0, slots := 0, locals := 111 }) E [.ref (ca 0), .int mk, .int v, .int f, .int t] zw (fun r w1 => wFr zw w1 ∧ (∃ L, cS E ca w1 8 L) ∧ (∃ L, cS E ca w1 10 L) ∧ r = if (0 ≤ mk.toInt ∧ mk.toInt ≤ 5) ∧ 0 ≤ v.toInt ∧ v.toInt ≤ 7 then (if 0 ≤ t.toInt ∧ t.toInt ≤ t0.toInt ∧ 0 ≤ f.toInt ∧ f.toInt ≤ t.toInt then (cnI (fun j => decide (dgt ((insN (inSp (ar 12) f t) (sNm ar) np).getD j 0) mk = v)) (insN (inSp (ar 12) f t) (sNm ar) np).length) else (-2)) else (-1)) 0 0 := by
  refine Ct.of (cc := cX5_bill) (nL := 7) (ret := (some .int)) (by decide) rfl (Nat.le_of_ble_eq_true rfl) ?_
  intro p e s m args below meth c C hr hnm
  refine v_eqlv (lv9 := [(0, .ref (ca 0)), (1, .int mk), (2, .int v), (3, .int f), (4, .int t)]) rfl ?_
  obtain ⟨hX, h4, h5, h6, h7, hL1, hL2, hL3⟩ := id hC
  obtain ⟨fs1, hq1⟩ := hL1.cell
  obtain ⟨fs2, hq2⟩ := hL2.cell
  obtain ⟨fs3, hq3⟩ := hL3.cell
  refine v_iload_n C dX5_bill_0 rfl rfl ?_
  refine v_callSi C (c_X5_isMark l E zw _ ) (va_cwS 1 C.1.2.2.2.2 gX5_bill_X5_isMark rfl rfl rfl (by decide +kernel) ⟨by decide, by decide⟩) rfl rfl (Nat.le_of_ble_eq_true rfl) dX5_bill_1 ⟨Nat.le_of_ble_eq_true rfl, Nat.le_of_ble_eq_true rfl⟩ (fun r w1 hp => ?_)
  obtain ⟨rfl, hr9⟩ := hp
  rw [hr9]
  clear hr9
  refine v_if_eq (tgt := 14) C dX5_bill_4 (by decide) (fun c4 => ?_) (fun c4 => ?_)
  · have c4 := b01_0 c4
    refine v_iconst (v := (-1)) C dX5_bill_14 (by decide) ?_
    refine v_iret C hr dX5_bill_15 (Nat.le_of_ble_eq_true rfl) (Nat.le_of_ble_eq_true rfl) ?_
    exact ⟨_, rfl, (by first | exact ⟨wFr.rf _, ⟨_, hs⟩, ⟨_, hw⟩, by first | (rw [if_neg (fun h => c4 h.1)]; done) | (rw [if_neg (fun h => c11 h.2)]; done) | (rw [if_pos ⟨c4, c11⟩, if_neg c23]; done)⟩ | exact ⟨hF, ⟨_, hs⟩, ⟨_, hw⟩, by rw [if_pos ⟨c4, c11⟩, if_pos c23]; done⟩)⟩
  · have c4 := b01_n c4
    refine v_iload_n C dX5_bill_7 rfl rfl ?_
    refine v_callSi C (c_X5_isValue l E zw _ ) (va_cwS 1 C.1.2.2.2.2 gX5_bill_X5_isValue rfl rfl rfl (by decide +kernel) ⟨by decide, by decide⟩) rfl rfl (Nat.le_of_ble_eq_true rfl) dX5_bill_8 ⟨Nat.le_of_ble_eq_true rfl, Nat.le_of_ble_eq_true rfl⟩ (fun r w1 hp => ?_)
    obtain ⟨rfl, hr9⟩ := hp
    rw [hr9]
    clear hr9
    refine v_if_ne (tgt := 16) C dX5_bill_11 (by decide) (fun c11 => ?_) (fun c11 => ?_)
    · have c11 := b01_n c11
      refine v_aload_n C dX5_bill_16 rfl rfl ?_
      refine v_iload_n C dX5_bill_17 rfl rfl ?_
      refine v_iload C dX5_bill_18 rfl ?_
      refine v_callVi C (c_X5_isSpan l E zw hC hb _ _) (cwV 2 C.1.2.2.2.2 gX5_bill_X5_isSpan rfl rfl rfl (by decide +kernel) ⟨by decide, by decide⟩) 0 6 hX rfl rfl rfl (Nat.le_of_ble_eq_true rfl) dX5_bill_20 ⟨Nat.le_of_ble_eq_true rfl, Nat.le_of_ble_eq_true rfl⟩ (fun r w1 hp => ?_)
      obtain ⟨rfl, hr9⟩ := hp
      rw [hr9]
      clear hr9
      refine v_if_ne (tgt := 29) C dX5_bill_23 (by decide) (fun c23 => ?_) (fun c23 => ?_)
      · have c23 := b01_n c23
        refine v_aload_n C dX5_bill_29 rfl rfl ?_
        refine v_iload_n C dX5_bill_30 rfl rfl ?_
        refine v_iload C dX5_bill_31 rfl ?_
        refine v_callVu C (c_X5_gatherSeen l E zw hC hb hs f t) (cwV 2 C.1.2.2.2.2 gX5_bill_X5_gatherSeen rfl rfl rfl (by decide +kernel) ⟨by decide, by decide⟩) 0 6 hX rfl rfl rfl (Nat.le_of_ble_eq_true rfl) dX5_bill_33 ⟨Nat.le_of_ble_eq_true rfl, Nat.le_of_ble_eq_true rfl⟩ (fun zw hp => ?_)
        obtain ⟨hs, hF8⟩ := hp
        have hC := hC.n hF8 (by decide) (by decide)
        have hw := hw.keep (hF8.2 10 (by decide) (by decide)) (hF8.2 11 (by decide) (by decide))
        have hF := wFr.n8 hF8
        have hX := hC.1
        have hlS := insN_len (inSp (ar 12) f t) (sNm ar) np
        obtain ⟨fz, g8, g9, hU, hS, hl⟩ := id hs
        refine v_iconst (v := 0) C dX5_bill_36 (by decide) ?_
        refine v_istore C dX5_bill_37 (by decide) rfl ?_
        refine v_iconst (v := 0) C dX5_bill_39 (by decide) ?_
        refine v_tov nI_0.symm ?_
        refine v_istore C dX5_bill_40 (by decide) rfl ?_
        refine lp_X5_bill C hC hb hs ?_ _ 0 (Nat.zero_add _)
        refine v_iload C dX5_bill_81 rfl ?_
        refine v_iret C hr dX5_bill_83 (Nat.le_of_ble_eq_true rfl) (Nat.le_of_ble_eq_true rfl) ?_
        exact ⟨_, rfl, (by first | exact ⟨wFr.rf _, ⟨_, hs⟩, ⟨_, hw⟩, by first | (rw [if_neg (fun h => c4 h.1)]; done) | (rw [if_neg (fun h => c11 h.2)]; done) | (rw [if_pos ⟨c4, c11⟩, if_neg c23]; done)⟩ | exact ⟨hF, ⟨_, hs⟩, ⟨_, hw⟩, by rw [if_pos ⟨c4, c11⟩, if_pos c23]; done⟩)⟩
      · have c23 := b01_0 c23
        refine v_bipush (v := (-2)) C dX5_bill_26 (by decide) ?_
        refine v_iret C hr dX5_bill_28 (Nat.le_of_ble_eq_true rfl) (Nat.le_of_ble_eq_true rfl) ?_
        exact ⟨_, rfl, (by first | exact ⟨wFr.rf _, ⟨_, hs⟩, ⟨_, hw⟩, by first | (rw [if_neg (fun h => c4 h.1)]; done) | (rw [if_neg (fun h => c11 h.2)]; done) | (rw [if_pos ⟨c4, c11⟩, if_neg c23]; done)⟩ | exact ⟨hF, ⟨_, hs⟩, ⟨_, hw⟩, by rw [if_pos ⟨c4, c11⟩, if_pos c23]; done⟩)⟩
    · have c11 := b01_0 c11
      refine v_iconst (v := (-1)) C dX5_bill_14 (by decide) ?_
      refine v_iret C hr dX5_bill_15 (Nat.le_of_ble_eq_true rfl) (Nat.le_of_ble_eq_true rfl) ?_
      exact ⟨_, rfl, (by first | exact ⟨wFr.rf _, ⟨_, hs⟩, ⟨_, hw⟩, by first | (rw [if_neg (fun h => c4 h.1)]; done) | (rw [if_neg (fun h => c11 h.2)]; done) | (rw [if_pos ⟨c4, c11⟩, if_neg c23]; done)⟩ | exact ⟨hF, ⟨_, hs⟩, ⟨_, hw⟩, by rw [if_pos ⟨c4, c11⟩, if_pos c23]; done⟩)⟩
theorem cntW_out {x t0 a b c d : Int32} (h : x.toInt < 0 ∨ 5 < x.toInt) : (if x = 0 then t0 else if x = 1 then a else if x = 2 then b else if x = 3 then c else if x = 4 then d else (-2)) = (-2) := by
  have hn : ∀ k : Nat, k < 6 → ¬ x = nI k := fun k hk e => by
    rw [e, nI_toInt (by omega)] at h
    omega
  rw [if_neg (show ¬ x = 0 from hn 0 (by decide)), if_neg (show ¬ x = 1 from hn 1 (by decide)), if_neg (show ¬ x = 2 from hn 2 (by decide)), if_neg (show ¬ x = 3 from hn 3 (by decide)), if_neg (show ¬ x = 4 from hn 4 (by decide))]
theorem inX5_count_X5 : ∀ x ∈ wsX50, x ∈ wsX5_count := by decide +kernel
theorem kwX5_count_43 : Cond.fieldLink RX5 43 "SeriesMarks" "tick" "I" ∈ wsX5_count := by decide +kernel
theorem kwX5_count_10 : Cond.fieldLink RX5 10 "SeriesMarks" "allSeries" "Ljava/util/ArrayList;" ∈ wsX5_count := by decide +kernel
theorem kwX5_count_16 : Cond.fieldLink RX5 16 "SeriesMarks" "samples" "Ljava/util/ArrayList;" ∈ wsX5_count := by decide +kernel
theorem kwX5_count_19 : Cond.fieldLink RX5 19 "SeriesMarks" "askings" "Ljava/util/ArrayList;" ∈ wsX5_count := by decide +kernel
theorem kwX5_count_25 : Cond.fieldLink RX5 25 "SeriesMarks" "shortening" "LSeriesMarks$Shortening;" ∈ wsX5_count := by decide +kernel
theorem inX5_count_X4 : ∀ x ∈ wsX40, x ∈ wsX5_count := by decide +kernel
set_option maxHeartbeats 4000000 in
set_option maxRecDepth 100000 in
theorem c_X5_count (l : Launch) (E : gE) (zw : va_W) {ca : Nat → Nat} {t0 : Int32} {ar : Nat → Nat → Int32} {dr ch : Nat → Int32} {ns np na : Nat} {qe : Nat → Nat} {pl : Nat → Nat → Nat} (hC : CF E ca zw t0 ar dr ch ns np na qe pl) (hb : ns ≤ 120 ∧ np ≤ 2000 ∧ na ≤ 10) {tk : Nat} (htk : t0 = nI tk) (htk9 : tk ≤ 199) (x : Int32) : CtI l yX5_count wsX5_count ({ frames := 1, cells := 0, slots := 0, locals := 20 }) E [.ref (ca 0), .int x] zw (fun r w1 => zw = w1 ∧ r = if x = 0 then t0 else if x = 1 then nI ns else if x = 2 then nI np else if x = 3 then nI na else if x = 4 then btc (dr tk) else (-2)) 0 0 := by
  refine Ct.of (cc := cX5_count) (nL := 2) (ret := (some .int)) (by decide) rfl (Nat.le_of_ble_eq_true rfl) ?_
  intro p e s m args below meth c C hr hnm
  refine v_eqlv (lv9 := [(0, .ref (ca 0)), (1, .int x)]) rfl ?_
  obtain ⟨hX, h4, h5, h6, h7, hL1, hL2, hL3⟩ := id hC
  obtain ⟨fs1, hq1⟩ := hL1.cell
  obtain ⟨fs2, hq2⟩ := hL2.cell
  obtain ⟨fs3, hq3⟩ := hL3.cell
  refine v_iload_n C dX5_count_0 rfl rfl ?_
  rcases i6 x with rfl | rfl | rfl | rfl | rfl | rfl | hx
  · refine v_tableIn (tgt := 36) C dX5_count_1 (by decide) (by decide) rfl (by decide) ?_
    refine v_aload_n C dX5_count_36 rfl rfl ?_
    refine v_get (v := .int t0) C inX5_count_X5 0 hX rfl 0 (by decide) kwX5_count_43 rfl rfl dX5_count_37 ?_
    refine v_iret C hr dX5_count_40 (Nat.le_of_ble_eq_true rfl) (Nat.le_of_ble_eq_true rfl) ?_
    exact ⟨_, rfl, ⟨rfl, by first | (simp; done) | exact (cntW_out hx).symm⟩⟩
  · refine v_tableIn (tgt := 41) C dX5_count_1 (by decide) (by decide) rfl (by decide) ?_
    refine v_aload_n C dX5_count_41 rfl rfl ?_
    refine v_get (v := .ref (ca 1)) C inX5_count_X5 0 hX rfl 1 (by decide) kwX5_count_10 rfl rfl dX5_count_42 ?_
    refine v_callVi C (hL1.size l) (cwV 0 C.1.2.2.2.2 gX5_count_Jx4a65c_size_8abf5 rfl rfl rfl (by decide +kernel) ⟨by decide, by decide⟩) 1 0 hq1 rfl rfl rfl (Nat.le_of_ble_eq_true rfl) dX5_count_45 ⟨Nat.le_of_ble_eq_true rfl, Nat.le_of_ble_eq_true rfl⟩ (fun r w1 hp => ?_)
    obtain ⟨rfl, rfl⟩ := hp
    refine v_iret C hr dX5_count_48 (Nat.le_of_ble_eq_true rfl) (Nat.le_of_ble_eq_true rfl) ?_
    exact ⟨_, rfl, ⟨rfl, by first | (simp; done) | exact (cntW_out hx).symm⟩⟩
  · refine v_tableIn (tgt := 49) C dX5_count_1 (by decide) (by decide) rfl (by decide) ?_
    refine v_aload_n C dX5_count_49 rfl rfl ?_
    refine v_get (v := .ref (ca 2)) C inX5_count_X5 0 hX rfl 2 (by decide) kwX5_count_16 rfl rfl dX5_count_50 ?_
    refine v_callVi C (hL2.size l) (cwV 0 C.1.2.2.2.2 gX5_count_Jx4a65c_size_8abf5 rfl rfl rfl (by decide +kernel) ⟨by decide, by decide⟩) 2 0 hq2 rfl rfl rfl (Nat.le_of_ble_eq_true rfl) dX5_count_53 ⟨Nat.le_of_ble_eq_true rfl, Nat.le_of_ble_eq_true rfl⟩ (fun r w1 hp => ?_)
    obtain ⟨rfl, rfl⟩ := hp
    refine v_iret C hr dX5_count_56 (Nat.le_of_ble_eq_true rfl) (Nat.le_of_ble_eq_true rfl) ?_
    exact ⟨_, rfl, ⟨rfl, by first | (simp; done) | exact (cntW_out hx).symm⟩⟩
  · refine v_tableIn (tgt := 57) C dX5_count_1 (by decide) (by decide) rfl (by decide) ?_
    refine v_aload_n C dX5_count_57 rfl rfl ?_
    refine v_get (v := .ref (ca 3)) C inX5_count_X5 0 hX rfl 3 (by decide) kwX5_count_19 rfl rfl dX5_count_58 ?_
    refine v_callVi C (hL3.size l) (cwV 0 C.1.2.2.2.2 gX5_count_Jx4a65c_size_8abf5 rfl rfl rfl (by decide +kernel) ⟨by decide, by decide⟩) 3 0 hq3 rfl rfl rfl (Nat.le_of_ble_eq_true rfl) dX5_count_61 ⟨Nat.le_of_ble_eq_true rfl, Nat.le_of_ble_eq_true rfl⟩ (fun r w1 hp => ?_)
    obtain ⟨rfl, rfl⟩ := hp
    refine v_iret C hr dX5_count_64 (Nat.le_of_ble_eq_true rfl) (Nat.le_of_ble_eq_true rfl) ?_
    exact ⟨_, rfl, ⟨rfl, by first | (simp; done) | exact (cntW_out hx).symm⟩⟩
  · refine v_tableIn (tgt := 65) C dX5_count_1 (by decide) (by decide) rfl (by decide) ?_
    refine v_aload_n C dX5_count_65 rfl rfl ?_
    refine v_get (v := .ref (ca 4)) C inX5_count_X5 0 hX rfl 4 (by decide) kwX5_count_25 rfl rfl dX5_count_66 ?_
    refine v_getN C inX5_count_X4 rfl 4 h4 rfl 0 (by decide) (by decide +kernel) rfl dX5_count_69 ?_
    refine v_aload_n C dX5_count_72 rfl rfl ?_
    refine v_get (v := .int t0) C inX5_count_X5 0 hX rfl 0 (by decide) kwX5_count_43 rfl rfl dX5_count_73 ?_
    refine v_tov htk ?_
    refine v_iald C 5 h5 (vp_in_nI (by omega) (by decide)) dX5_count_76 ?_
    refine v_tov (congrArg dr (nI_clamp (show tk < 2 ^ 31 by omega))) ?_
    refine v_callSi C (c_J6_bitCount_0f7a4 l E zw _) (va_cwS 1 C.1.2.2.2.2 gX5_count_J6_bitCount_0f7a4 rfl rfl rfl (by decide +kernel) ⟨by decide, by decide⟩) rfl rfl (Nat.le_of_ble_eq_true rfl) dX5_count_77 ⟨Nat.le_of_ble_eq_true rfl, Nat.le_of_ble_eq_true rfl⟩ (fun r w1 hp => ?_)
    obtain ⟨rfl, hr9⟩ := hp
    rw [hr9]
    clear hr9
    refine v_iret C hr dX5_count_80 (Nat.le_of_ble_eq_true rfl) (Nat.le_of_ble_eq_true rfl) ?_
    exact ⟨_, rfl, ⟨rfl, by first | (simp; done) | exact (cntW_out hx).symm⟩⟩
  · refine v_tableOut (tgt := 81) C dX5_count_1 (by decide) (by decide) ?_
    refine v_bipush (v := (-2)) C dX5_count_81 (by decide) ?_
    refine v_iret C hr dX5_count_83 (Nat.le_of_ble_eq_true rfl) (Nat.le_of_ble_eq_true rfl) ?_
    exact ⟨_, rfl, ⟨rfl, by first | (simp; done) | exact (cntW_out hx).symm⟩⟩
  · refine v_tableOut (tgt := 81) C dX5_count_1 (by omega) (by decide) ?_
    refine v_bipush (v := (-2)) C dX5_count_81 (by decide) ?_
    refine v_iret C hr dX5_count_83 (Nat.le_of_ble_eq_true rfl) (Nat.le_of_ble_eq_true rfl) ?_
    exact ⟨_, rfl, ⟨rfl, by first | (simp; done) | exact (cntW_out hx).symm⟩⟩
