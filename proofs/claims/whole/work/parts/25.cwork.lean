theorem CL.pl {E : gE} {zw : va_W} {q ci a n qe : Nat} {G : Nat → List Value} {pl : Nat → Nat} (h : CL E zw q ci a n G qe pl) {j : Nat} (hj : j < n) : 31 ≤ pl j := by
  obtain ⟨mo, ea, f, h1, h2, h3, h4⟩ := h
  obtain ⟨y, z1, z2, z3⟩ := h3 j hj
  exact z3
/-- the names of a row under a mask -/
def LN (L : List Int32) (d : Int32) (n : Nat) : List Int32 := insN (fun _ => true) (fun j => L.getD j 0 &&& d) n
/-- the key of a name by the class's asking -/
def kyC (ar : Nat → Nat → Int32) (ja : Nat) (x : Int32) : Int32 := if ar 19 ja = (-9) ∨ dgt x (ar 19 ja) = ar 20 ja then x &&& dgs (ar 18 ja) 6 else (-9)
def LK (ar : Nat → Nat → Int32) (ja : Nat) (L : List Int32) (n : Nat) : List Int32 := insN (fun j => decide (¬ kyC ar ja (L.getD j 0) = (-9))) (fun j => kyC ar ja (L.getD j 0)) n
theorem LN_len (L : List Int32) (d : Int32) (n : Nat) : (LN L d n).length ≤ n := insN_len _ _ _
theorem LK_len (ar : Nat → Nat → Int32) (ja : Nat) (L : List Int32) (n : Nat) : (LK ar ja L n).length ≤ n := insN_len _ _ _
theorem ul_getD {f : Nat → Int32} {L : List Int32} (h : UL f L) {i : Nat} (hi : i < L.length) (h2 : L.length ≤ 2000) : f (nI i).toNatClampNeg = L.getD i 0 := by
  rw [nI_clamp (by omega), h i hi]
  exact List.getElem_eq_getD _
theorem inX5_namesLeftWithout_X5 : ∀ x ∈ wsX50, x ∈ wsX5_namesLeftWithout := by decide +kernel
theorem kwX5_namesLeftWithout_36 : Cond.fieldLink RX5 36 "SeriesMarks" "seenNames" "LSeriesMarks$NameSet;" ∈ wsX5_namesLeftWithout := by decide +kernel
theorem inX5_namesLeftWithout_X1 : ∀ x ∈ wsX10, x ∈ wsX5_namesLeftWithout := by decide +kernel
theorem kwX5_namesLeftWithout_40 : Cond.fieldLink RX5 40 "SeriesMarks" "workNames" "LSeriesMarks$NameSet;" ∈ wsX5_namesLeftWithout := by decide +kernel
set_option maxHeartbeats 4000000 in
set_option maxRecDepth 100000 in
theorem lp_X5_namesLeftWithout {p : Program} {l : Launch} {e : Env} {s : State} {m : MethodId} {args : Array Value} {below : List Frame} {meth : Method} {c : Code} {Q : State → Prop} {E : gE} {w0 : va_W} (C : gC p s m args meth c E cX5_namesLeftWithout 4 wsX5_namesLeftWithout yX5_namesLeftWithout.cls) {ca : Nat → Nat} {t0 : Int32} {ar : Nat → Nat → Int32} {dr ch : Nat → Int32} {ns np na : Nat} {qe : Nat → Nat} {pl : Nat → Nat → Nat} (hb : ns ≤ 120 ∧ np ≤ 2000 ∧ na ≤ 10) {mk d9 : Int32} {L : List Int32} (hlL : L.length ≤ 2000) (hK : ∀ zw : va_W, CF E ca zw t0 ar dr ch ns np na qe pl → nFr 10 w0 zw → cS E ca zw 8 L → cS E ca zw 10 (LN L d9 L.length) → V p l e ({ frames := 4, cells := 0, slots := 0, locals := 87 }) s m args below meth c E 4 zw 0 0 Q 52 [(0, .ref (ca 0)), (1, .int mk), (2, .int d9), (3, .int (nI L.length))] []) : ∀ n i : Nat, i + n = L.length → ∀ zw : va_W, CF E ca zw t0 ar dr ch ns np na qe pl → nFr 10 w0 zw → cS E ca zw 8 L → cS E ca zw 10 (LN L d9 i) → V p l e ({ frames := 4, cells := 0, slots := 0, locals := 87 }) s m args below meth c E 4 zw 0 0 Q 17 [(0, .ref (ca 0)), (1, .int mk), (2, .int d9), (3, .int (nI i))] [] := by
  intro n
  induction n with
  | zero =>
    intro i hi zw hC hF hs hw
    obtain rfl : i = L.length := by omega
    obtain ⟨hX, h4, h5, h6, h7, hL1, hL2, hL3⟩ := id hC
    obtain ⟨fs1, hq1⟩ := hL1.cell
    obtain ⟨fs2, hq2⟩ := hL2.cell
    obtain ⟨fs3, hq3⟩ := hL3.cell
    obtain ⟨fz, g8, g9, hU, hS, hl⟩ := id hs
    refine v_iload_n C dX5_namesLeftWithout_17 rfl rfl ?_
    refine v_aload_n C dX5_namesLeftWithout_18 rfl rfl ?_
    refine v_get (v := .ref (ca 8)) C inX5_namesLeftWithout_X5 0 hX rfl 6 (by decide) kwX5_namesLeftWithout_36 rfl rfl dX5_namesLeftWithout_19 ?_
    refine v_getN C inX5_namesLeftWithout_X1 rfl 8 g8 rfl 1 (by decide) (by decide +kernel) rfl dX5_namesLeftWithout_22 ?_
    refine v_icmp_ge (tgt := 52) C dX5_namesLeftWithout_25 (by decide) (fun c25 => ?_) (fun c25 => absurd (nI_le (Nat.le_refl _) (by omega)) c25)
    exact hK zw hC hF hs hw
  | succ n ih =>
    intro i hi zw hC hF hs hw
    obtain ⟨hX, h4, h5, h6, h7, hL1, hL2, hL3⟩ := id hC
    obtain ⟨fs1, hq1⟩ := hL1.cell
    obtain ⟨fs2, hq2⟩ := hL2.cell
    obtain ⟨fs3, hq3⟩ := hL3.cell
    obtain ⟨fz, g8, g9, hU, hS, hl⟩ := id hs
    obtain ⟨fw, g10, g11, hUw, hSw, hlw⟩ := id hw
    refine v_iload_n C dX5_namesLeftWithout_17 rfl rfl ?_
    refine v_aload_n C dX5_namesLeftWithout_18 rfl rfl ?_
    refine v_get (v := .ref (ca 8)) C inX5_namesLeftWithout_X5 0 hX rfl 6 (by decide) kwX5_namesLeftWithout_36 rfl rfl dX5_namesLeftWithout_19 ?_
    refine v_getN C inX5_namesLeftWithout_X1 rfl 8 g8 rfl 1 (by decide) (by decide +kernel) rfl dX5_namesLeftWithout_22 ?_
    refine v_icmp_ge (tgt := 52) C dX5_namesLeftWithout_25 (by decide) (fun c25 => absurd c25 (nI_ge (by omega) (by omega))) (fun c25 => ?_)
    refine v_aload_n C dX5_namesLeftWithout_28 rfl rfl ?_
    refine v_get (v := .ref (ca 10)) C inX5_namesLeftWithout_X5 0 hX rfl 7 (by decide) kwX5_namesLeftWithout_40 rfl rfl dX5_namesLeftWithout_29 ?_
    refine v_aload_n C dX5_namesLeftWithout_32 rfl rfl ?_
    refine v_get (v := .ref (ca 8)) C inX5_namesLeftWithout_X5 0 hX rfl 6 (by decide) kwX5_namesLeftWithout_36 rfl rfl dX5_namesLeftWithout_33 ?_
    refine v_at (pc9 := 36) rfl ?_
    refine v_getN C inX5_namesLeftWithout_X1 rfl 8 g8 rfl 0 (by decide) (by decide +kernel) rfl dX5_namesLeftWithout_36 ?_
    refine v_iload_n C dX5_namesLeftWithout_39 rfl rfl ?_
    refine v_iald C 9 g9 (vp_in_nI (by omega) (by decide)) dX5_namesLeftWithout_40 ?_
    refine v_tov (ul_getD hU (by omega) hl) ?_
    refine v_iload_n C dX5_namesLeftWithout_41 rfl rfl ?_
    refine v_iand C dX5_namesLeftWithout_42 ?_
    refine v_callVu C (c_X1_put l E zw g10 g11 hSw hUw (by have := LN_len L d9 i; omega) (by decide) (L.getD i 0 &&& d9)) (cwV 1 C.1.2.2.2.2 gX5_namesLeftWithout_X1_put rfl rfl rfl (by decide +kernel) ⟨by decide, by decide⟩) 10 2 g10 rfl rfl rfl (Nat.le_of_ble_eq_true rfl) dX5_namesLeftWithout_43 ⟨Nat.le_of_ble_eq_true rfl, Nat.le_of_ble_eq_true rfl⟩ (fun zw hp => ?_)
    obtain ⟨f1, g10, g11, hUw, z1, z2⟩ := hp
    have hF1 : nFr 10 _ zw := ⟨z1, z2⟩
    have hC := hC.n hF1 (by decide) (by decide)
    have hs := hs.keep (z2 8 (by decide) (by decide)) (z2 9 (by decide) (by decide))
    have hF := hF.tr hF1
    refine v_iincN C dX5_namesLeftWithout_46 rfl (by decide) rfl ?_
    refine v_goto (tgt := 17) C dX5_namesLeftWithout_49 (by decide) ?_
    have e9 : LN L d9 (i + 1) = ins (L.getD i 0 &&& d9) (LN L d9 i) := rfl
    have := insN_len (fun _ => true) (fun j => L.getD j 0 &&& d9) (i + 1)
    exact ih (i + 1) (by omega) zw hC hF hs ⟨f1, by rw [e9]; exact g10, g11, by rw [e9]; exact hUw, insN_sor _ _ _, by show (insN _ _ _).length ≤ 2000; omega⟩
set_option maxHeartbeats 4000000 in
set_option maxRecDepth 100000 in
theorem c_X5_namesLeftWithout (l : Launch) (E : gE) (zw : va_W) {ca : Nat → Nat} {t0 : Int32} {ar : Nat → Nat → Int32} {dr ch : Nat → Int32} {ns np na : Nat} {qe : Nat → Nat} {pl : Nat → Nat → Nat} (hC : CF E ca zw t0 ar dr ch ns np na qe pl) (hb : ns ≤ 120 ∧ np ≤ 2000 ∧ na ≤ 10) {L L1 : List Int32} (hs : cS E ca zw 8 L) (hw : cS E ca zw 10 L1) (mk : Int32) : CtI l yX5_namesLeftWithout wsX5_namesLeftWithout ({ frames := 4, cells := 0, slots := 0, locals := 87 }) E [.ref (ca 0), .int mk] zw (fun r w1 => cS E ca w1 10 (LN L (dgs (63 ^^^ mk) 6) L.length) ∧ nFr 10 zw w1 ∧ r = nI (LN L (dgs (63 ^^^ mk) 6) L.length).length) 0 0 := by
  refine Ct.of (cc := cX5_namesLeftWithout) (nL := 4) (ret := (some .int)) (by decide) rfl (Nat.le_of_ble_eq_true rfl) ?_
  intro p e s m args below meth c C hr hnm
  refine v_eqlv (lv9 := [(0, .ref (ca 0)), (1, .int mk)]) rfl ?_
  obtain ⟨hX, h4, h5, h6, h7, hL1, hL2, hL3⟩ := id hC
  obtain ⟨fs1, hq1⟩ := hL1.cell
  obtain ⟨fs2, hq2⟩ := hL2.cell
  obtain ⟨fs3, hq3⟩ := hL3.cell
  obtain ⟨fz, g8, g9, hU, hS, hl⟩ := id hs
  obtain ⟨fw, g10, g11, hUw, hSw, hlw⟩ := id hw
  refine v_bipush (v := 63) C dX5_namesLeftWithout_0 (by decide) ?_
  refine v_iload_n C dX5_namesLeftWithout_2 rfl rfl ?_
  refine v_ixor C dX5_namesLeftWithout_3 ?_
  refine v_callSi C (c_X5_digitsOf l E zw _ ) (va_cwS 1 C.1.2.2.2.2 gX5_namesLeftWithout_X5_digitsOf rfl rfl rfl (by decide +kernel) ⟨by decide, by decide⟩) rfl rfl (Nat.le_of_ble_eq_true rfl) dX5_namesLeftWithout_4 ⟨Nat.le_of_ble_eq_true rfl, Nat.le_of_ble_eq_true rfl⟩ (fun r w1 hp => ?_)
  obtain ⟨rfl, hr9⟩ := hp
  rw [hr9]
  clear hr9
  refine v_istore_n C dX5_namesLeftWithout_7 rfl (by decide) rfl ?_
  refine v_aload_n C dX5_namesLeftWithout_8 rfl rfl ?_
  refine v_get (v := .ref (ca 10)) C inX5_namesLeftWithout_X5 0 hX rfl 7 (by decide) kwX5_namesLeftWithout_40 rfl rfl dX5_namesLeftWithout_9 ?_
  refine v_callVu C (c_X1_makeEmpty l E zw g10) (cwV 0 C.1.2.2.2.2 gX5_namesLeftWithout_X1_makeEmpty rfl rfl rfl (by decide +kernel) ⟨by decide, by decide⟩) 10 2 g10 rfl rfl rfl (Nat.le_of_ble_eq_true rfl) dX5_namesLeftWithout_12 ⟨Nat.le_of_ble_eq_true rfl, Nat.le_of_ble_eq_true rfl⟩ (fun zw hp => ?_)
  obtain ⟨g10, hO⟩ := hp
  have hF := nFr.of hO
  have hC := hC.n hF (by decide) (by decide)
  have hs := hs.keep (hO.2 8 (by decide)) (hO.2 9 (by decide))
  have hw : cS E ca zw 10 [] := ⟨fw, g10, (hO.2 11 (by decide)).trans g11, UL.nil _, List.Pairwise.nil, Nat.zero_le _⟩
  refine v_iconst (v := 0) C dX5_namesLeftWithout_15 (by decide) ?_
  refine v_at (pc9 := 16) rfl ?_
  refine v_tov nI_0.symm ?_
  refine v_istore_n C dX5_namesLeftWithout_16 rfl (by decide) rfl ?_
  refine lp_X5_namesLeftWithout C hb hl ?_ L.length 0 (Nat.zero_add _) zw hC hF hs hw
  intro zw hC hF hs hw
  obtain ⟨hX, h4, h5, h6, h7, hL1, hL2, hL3⟩ := id hC
  obtain ⟨fw, g10, g11, hUw, hSw, hlw⟩ := id hw
  refine v_aload_n C dX5_namesLeftWithout_52 rfl rfl ?_
  refine v_get (v := .ref (ca 10)) C inX5_namesLeftWithout_X5 0 hX rfl 7 (by decide) kwX5_namesLeftWithout_40 rfl rfl dX5_namesLeftWithout_53 ?_
  refine v_getN C inX5_namesLeftWithout_X1 rfl 10 g10 rfl 1 (by decide) (by decide +kernel) rfl dX5_namesLeftWithout_56 ?_
  refine v_iret C hr dX5_namesLeftWithout_59 (Nat.le_of_ble_eq_true rfl) (Nat.le_of_ble_eq_true rfl) ?_
  exact ⟨_, rfl, ⟨hw, hF, rfl⟩⟩
theorem inX5_gatherKeys_X5 : ∀ x ∈ wsX50, x ∈ wsX5_gatherKeys := by decide +kernel
theorem kwX5_gatherKeys_36 : Cond.fieldLink RX5 36 "SeriesMarks" "seenNames" "LSeriesMarks$NameSet;" ∈ wsX5_gatherKeys := by decide +kernel
theorem inX5_gatherKeys_X1 : ∀ x ∈ wsX10, x ∈ wsX5_gatherKeys := by decide +kernel
theorem kwX5_gatherKeys_40 : Cond.fieldLink RX5 40 "SeriesMarks" "workNames" "LSeriesMarks$NameSet;" ∈ wsX5_gatherKeys := by decide +kernel
set_option maxHeartbeats 4000000 in
set_option maxRecDepth 100000 in
theorem lp_X5_gatherKeys {p : Program} {l : Launch} {e : Env} {s : State} {m : MethodId} {args : Array Value} {below : List Frame} {meth : Method} {c : Code} {Q : State → Prop} {E : gE} {w0 : va_W} (C : gC p s m args meth c E cX5_gatherKeys 6 wsX5_gatherKeys yX5_gatherKeys.cls) {ca : Nat → Nat} {t0 : Int32} {ar : Nat → Nat → Int32} {dr ch : Nat → Int32} {ns np na : Nat} {qe : Nat → Nat} {pl : Nat → Nat → Nat} (hb : ns ≤ 120 ∧ np ≤ 2000 ∧ na ≤ 10) {f t : Int32} {ja y : Nat} (hpl : 31 ≤ pl 3 ja) {L : List Int32} (hlL : L.length ≤ 2000) (hK : ∀ zw : va_W, CF E ca zw t0 ar dr ch ns np na qe pl → nFr 10 w0 zw → cS E ca zw 8 L → cS E ca zw 10 (LK ar ja L L.length) → V p l e ({ frames := 5, cells := 0, slots := 0, locals := 111 }) s m args below meth c E 6 zw 0 0 Q 66 [(0, .ref (ca 0)), (1, .ref y), (2, .int f), (3, .int t), (4, .int (nI L.length))] []) : ∀ n i : Nat, i + n = L.length → ∀ zw : va_W, CF E ca zw t0 ar dr ch ns np na qe pl → nFr 10 w0 zw → zw[pl 3 ja]? = some (y, .inr (1, askF ar ja)) → cS E ca zw 8 L → cS E ca zw 10 (LK ar ja L i) → V p l e ({ frames := 5, cells := 0, slots := 0, locals := 111 }) s m args below meth c E 6 zw 0 0 Q 16 [(0, .ref (ca 0)), (1, .ref y), (2, .int f), (3, .int t), (4, .int (nI i))] [] := by
  intro n
  induction n with
  | zero =>
    intro i hi zw hC hF hob hs hw
    obtain rfl : i = L.length := by omega
    obtain ⟨hX, h4, h5, h6, h7, hL1, hL2, hL3⟩ := id hC
    obtain ⟨fs1, hq1⟩ := hL1.cell
    obtain ⟨fs2, hq2⟩ := hL2.cell
    obtain ⟨fs3, hq3⟩ := hL3.cell
    obtain ⟨fz, g8, g9, hU, hS, hl⟩ := id hs
    refine v_iload C dX5_gatherKeys_16 rfl ?_
    refine v_aload_n C dX5_gatherKeys_18 rfl rfl ?_
    refine v_get (v := .ref (ca 8)) C inX5_gatherKeys_X5 0 hX rfl 6 (by decide) kwX5_gatherKeys_36 rfl rfl dX5_gatherKeys_19 ?_
    refine v_getN C inX5_gatherKeys_X1 rfl 8 g8 rfl 1 (by decide) (by decide +kernel) rfl dX5_gatherKeys_22 ?_
    refine v_icmp_ge (tgt := 66) C dX5_gatherKeys_25 (by decide) (fun c25 => ?_) (fun c25 => absurd (nI_le (Nat.le_refl _) (by omega)) c25)
    exact hK zw hC hF hs hw
  | succ n ih =>
    intro i hi zw hC hF hob hs hw
    obtain ⟨hX, h4, h5, h6, h7, hL1, hL2, hL3⟩ := id hC
    obtain ⟨fs1, hq1⟩ := hL1.cell
    obtain ⟨fs2, hq2⟩ := hL2.cell
    obtain ⟨fs3, hq3⟩ := hL3.cell
    obtain ⟨fz, g8, g9, hU, hS, hl⟩ := id hs
    obtain ⟨fw, g10, g11, hUw, hSw, hlw⟩ := id hw
    refine v_iload C dX5_gatherKeys_16 rfl ?_
    refine v_aload_n C dX5_gatherKeys_18 rfl rfl ?_
    refine v_get (v := .ref (ca 8)) C inX5_gatherKeys_X5 0 hX rfl 6 (by decide) kwX5_gatherKeys_36 rfl rfl dX5_gatherKeys_19 ?_
    refine v_getN C inX5_gatherKeys_X1 rfl 8 g8 rfl 1 (by decide) (by decide +kernel) rfl dX5_gatherKeys_22 ?_
    refine v_icmp_ge (tgt := 66) C dX5_gatherKeys_25 (by decide) (fun c25 => absurd c25 (nI_ge (by omega) (by omega))) (fun c25 => ?_)
    refine v_aload_n C dX5_gatherKeys_28 rfl rfl ?_
    refine v_aload_n C dX5_gatherKeys_29 rfl rfl ?_
    refine v_get (v := .ref (ca 8)) C inX5_gatherKeys_X5 0 hX rfl 6 (by decide) kwX5_gatherKeys_36 rfl rfl dX5_gatherKeys_30 ?_
    refine v_getN C inX5_gatherKeys_X1 rfl 8 g8 rfl 0 (by decide) (by decide +kernel) rfl dX5_gatherKeys_33 ?_
    refine v_at (pc9 := 36) rfl ?_
    refine v_iload C dX5_gatherKeys_36 rfl ?_
    refine v_iald C 9 g9 (vp_in_nI (by omega) (by decide)) dX5_gatherKeys_38 ?_
    refine v_tov (ul_getD hU (by omega) hl) ?_
    refine v_callVi C (c_X0_keyOf l E zw hob _) (cwV 1 C.1.2.2.2.2 gX5_gatherKeys_X0_keyOf rfl rfl rfl (by decide +kernel) ⟨by decide, by decide⟩) (pl 3 ja) 1 hob rfl rfl rfl (Nat.le_of_ble_eq_true rfl) dX5_gatherKeys_39 ⟨Nat.le_of_ble_eq_true rfl, Nat.le_of_ble_eq_true rfl⟩ (fun r w1 hp => ?_)
    obtain ⟨rfl, hr9⟩ := hp
    have hr9 : r = kyC ar ja (L.getD i 0) := hr9
    rw [hr9]
    clear hr9
    refine v_istore C dX5_gatherKeys_42 (by decide) rfl ?_
    refine v_iload C dX5_gatherKeys_44 rfl ?_
    refine v_bipush (v := (-9)) C dX5_gatherKeys_46 (by decide) ?_
    refine v_icmp_eq (tgt := 60) C dX5_gatherKeys_48 (by decide) (fun c48 => ?_) (fun c48 => ?_)
    · have c9 : decide (¬ kyC ar ja (L.getD i 0) = (-9)) = false := by simpa using c48
      refine v_pick (lv9 := [(0, .ref (ca 0)), (1, .ref y), (2, .int f), (3, .int t), (4, .int (nI i))]) ⟨rfl, rfl, rfl, rfl, rfl, trivial⟩ ?_
      refine v_iincN C dX5_gatherKeys_60 rfl (by decide) rfl ?_
      refine v_goto (tgt := 16) C dX5_gatherKeys_63 (by decide) ?_
      first
      | (have e9 : LK ar ja L (i + 1) = LK ar ja L i := insN_f c9
         exact ih (i + 1) (by omega) zw hC hF hob hs (by rw [e9]; exact hw))
      | (have e9 : LK ar ja L (i + 1) = ins (kyC ar ja (L.getD i 0)) (LK ar ja L i) := insN_t c9
         have := insN_len (fun j => decide (¬ kyC ar ja (L.getD j 0) = (-9))) (fun j => kyC ar ja (L.getD j 0)) (i + 1)
         exact ih (i + 1) (by omega) zw hC hF hob hs ⟨f1, by rw [e9]; exact g10, g11, by rw [e9]; exact hUw, insN_sor _ _ _, by show (insN _ _ _).length ≤ 2000; omega⟩)
    · have c9 : decide (¬ kyC ar ja (L.getD i 0) = (-9)) = true := by simpa using c48
      refine v_aload_n C dX5_gatherKeys_51 rfl rfl ?_
      refine v_get (v := .ref (ca 10)) C inX5_gatherKeys_X5 0 hX rfl 7 (by decide) kwX5_gatherKeys_40 rfl rfl dX5_gatherKeys_52 ?_
      refine v_iload C dX5_gatherKeys_55 rfl ?_
      refine v_callVu C (c_X1_put l E zw g10 g11 hSw hUw (by have := LK_len ar ja L i; omega) (by decide) (kyC ar ja (L.getD i 0))) (cwV 1 C.1.2.2.2.2 gX5_gatherKeys_X1_put rfl rfl rfl (by decide +kernel) ⟨by decide, by decide⟩) 10 2 g10 rfl rfl rfl (Nat.le_of_ble_eq_true rfl) dX5_gatherKeys_57 ⟨Nat.le_of_ble_eq_true rfl, Nat.le_of_ble_eq_true rfl⟩ (fun zw hp => ?_)
      obtain ⟨f1, g10, g11, hUw, z1, z2⟩ := hp
      have hF1 : nFr 10 _ zw := ⟨z1, z2⟩
      have hC := hC.n hF1 (by decide) (by decide)
      have hs := hs.keep (z2 8 (by decide) (by decide)) (z2 9 (by decide) (by decide))
      have hF := hF.tr hF1
      have hob := (z2 (pl 3 ja) (by omega) (by omega)).trans hob
      refine v_pick (lv9 := [(0, .ref (ca 0)), (1, .ref y), (2, .int f), (3, .int t), (4, .int (nI i))]) ⟨rfl, rfl, rfl, rfl, rfl, trivial⟩ ?_
      refine v_iincN C dX5_gatherKeys_60 rfl (by decide) rfl ?_
      refine v_goto (tgt := 16) C dX5_gatherKeys_63 (by decide) ?_
      first
      | (have e9 : LK ar ja L (i + 1) = LK ar ja L i := insN_f c9
         exact ih (i + 1) (by omega) zw hC hF hob hs (by rw [e9]; exact hw))
      | (have e9 : LK ar ja L (i + 1) = ins (kyC ar ja (L.getD i 0)) (LK ar ja L i) := insN_t c9
         have := insN_len (fun j => decide (¬ kyC ar ja (L.getD j 0) = (-9))) (fun j => kyC ar ja (L.getD j 0)) (i + 1)
         exact ih (i + 1) (by omega) zw hC hF hob hs ⟨f1, by rw [e9]; exact g10, g11, by rw [e9]; exact hUw, insN_sor _ _ _, by show (insN _ _ _).length ≤ 2000; omega⟩)
set_option maxHeartbeats 4000000 in
set_option maxRecDepth 100000 in
theorem c_X5_gatherKeys (l : Launch) (E : gE) (zw : va_W) {ca : Nat → Nat} {t0 : Int32} {ar : Nat → Nat → Int32} {dr ch : Nat → Int32} {ns np na : Nat} {qe : Nat → Nat} {pl : Nat → Nat → Nat} (hC : CF E ca zw t0 ar dr ch ns np na qe pl) (hb : ns ≤ 120 ∧ np ≤ 2000 ∧ na ≤ 10) {L0 L1 : List Int32} (hs : cS E ca zw 8 L0) (hw : cS E ca zw 10 L1) {ja y : Nat} (hpl : 31 ≤ pl 3 ja) (hob : zw[pl 3 ja]? = some (y, .inr (1, askF ar ja))) (f t : Int32) : CtU l yX5_gatherKeys wsX5_gatherKeys ({ frames := 5, cells := 0, slots := 0, locals := 111 }) E [.ref (ca 0), .ref y, .int f, .int t] zw (fun w1 => cS E ca w1 8 (insN (inSp (ar 12) f t) (sNm ar) np) ∧ cS E ca w1 10 (LK ar ja (insN (inSp (ar 12) f t) (sNm ar) np) (insN (inSp (ar 12) f t) (sNm ar) np).length) ∧ wFr zw w1) 0 0 := by
  refine Ct.of (cc := cX5_gatherKeys) (nL := 6) (ret := none) (by decide) rfl (Nat.le_of_ble_eq_true rfl) ?_
  intro p e s m args below meth c C hr hnm
  refine v_eqlv (lv9 := [(0, .ref (ca 0)), (1, .ref y), (2, .int f), (3, .int t)]) rfl ?_
  obtain ⟨hX, h4, h5, h6, h7, hL1, hL2, hL3⟩ := id hC
  obtain ⟨fs1, hq1⟩ := hL1.cell
  obtain ⟨fs2, hq2⟩ := hL2.cell
  obtain ⟨fs3, hq3⟩ := hL3.cell
  obtain ⟨fz, g8, g9, hU, hS, hl⟩ := id hs
  refine v_aload_n C dX5_gatherKeys_0 rfl rfl ?_
  refine v_iload_n C dX5_gatherKeys_1 rfl rfl ?_
  refine v_iload_n C dX5_gatherKeys_2 rfl rfl ?_
  refine v_callVu C (c_X5_gatherSeen l E zw hC hb hs f t) (cwV 2 C.1.2.2.2.2 gX5_gatherKeys_X5_gatherSeen rfl rfl rfl (by decide +kernel) ⟨by decide, by decide⟩) 0 6 hX rfl rfl rfl (Nat.le_of_ble_eq_true rfl) dX5_gatherKeys_3 ⟨Nat.le_of_ble_eq_true rfl, Nat.le_of_ble_eq_true rfl⟩ (fun zw hp => ?_)
  obtain ⟨hs, hF8⟩ := hp
  have hC := hC.n hF8 (by decide) (by decide)
  have hw := hw.keep (hF8.2 10 (by decide) (by decide)) (hF8.2 11 (by decide) (by decide))
  have hob := (hF8.2 (pl 3 ja) (by omega) (by omega)).trans hob
  have hX := hC.1
  obtain ⟨fw, g10, g11, hUw, hSw, hlw⟩ := id hw
  refine v_aload_n C dX5_gatherKeys_6 rfl rfl ?_
  refine v_get (v := .ref (ca 10)) C inX5_gatherKeys_X5 0 hX rfl 7 (by decide) kwX5_gatherKeys_40 rfl rfl dX5_gatherKeys_7 ?_
  refine v_callVu C (c_X1_makeEmpty l E zw g10) (cwV 0 C.1.2.2.2.2 gX5_gatherKeys_X1_makeEmpty rfl rfl rfl (by decide +kernel) ⟨by decide, by decide⟩) 10 2 g10 rfl rfl rfl (Nat.le_of_ble_eq_true rfl) dX5_gatherKeys_10 ⟨Nat.le_of_ble_eq_true rfl, Nat.le_of_ble_eq_true rfl⟩ (fun zw hp => ?_)
  obtain ⟨g10, hO⟩ := hp
  have hF := nFr.of hO
  have hC := hC.n hF (by decide) (by decide)
  have hs := hs.keep (hO.2 8 (by decide)) (hO.2 9 (by decide))
  have hw : cS E ca zw 10 [] := ⟨fw, g10, (hO.2 11 (by decide)).trans g11, UL.nil _, List.Pairwise.nil, Nat.zero_le _⟩
  have hob := (hO.2 (pl 3 ja) (by omega)).trans hob
  have hlL := insN_len (inSp (ar 12) f t) (sNm ar) np
  refine v_iconst (v := 0) C dX5_gatherKeys_13 (by decide) ?_
  refine v_tov nI_0.symm ?_
  refine v_istore C dX5_gatherKeys_14 (by decide) rfl ?_
  refine lp_X5_gatherKeys C hb hpl (L := (insN (inSp (ar 12) f t) (sNm ar) np)) (by omega) ?_ _ 0 (Nat.zero_add _) zw hC hF hob hs hw
  intro zw hC hF hs hw
  refine v_vret C hr dX5_gatherKeys_66 (Nat.le_of_ble_eq_true rfl) (Nat.le_of_ble_eq_true rfl) ?_
  exact ⟨rfl, ⟨hs, hw, (wFr.n8 hF8).tr (wFr.n10 hF)⟩⟩
theorem inX5_firstLack_X5 : ∀ x ∈ wsX50, x ∈ wsX5_firstLack := by decide +kernel
theorem kwX5_firstLack_25 : Cond.fieldLink RX5 25 "SeriesMarks" "shortening" "LSeriesMarks$Shortening;" ∈ wsX5_firstLack := by decide +kernel
theorem inX5_firstLack_X4 : ∀ x ∈ wsX40, x ∈ wsX5_firstLack := by decide +kernel
set_option maxHeartbeats 4000000 in
set_option maxRecDepth 100000 in
theorem lp_X5_firstLack {p : Program} {l : Launch} {e : Env} {s : State} {m : MethodId} {args : Array Value} {below : List Frame} {meth : Method} {c : Code} {E : gE} {zw : va_W} (C : gC p s m args meth c E cX5_firstLack 5 wsX5_firstLack yX5_firstLack.cls) (hr : meth.sig.returnType = some .int) {ca : Nat → Nat} {t0 : Int32} {ar : Nat → Nat → Int32} {dr ch : Nat → Int32} {ns np na : Nat} {qe : Nat → Nat} {pl : Nat → Nat → Nat} (hC : CF E ca zw t0 ar dr ch ns np na qe pl) (hb : ns ≤ 120 ∧ np ≤ 2000 ∧ na ≤ 10) {mk : Int32} {ff tt : Nat} (htt : tt ≤ 199) (res : Int32) : ∀ n i : Nat, i + n = tt + 1 → fiT (fun t => dr t &&& mk) n i = res → V p l e ({ frames := 0, cells := 0, slots := 0, locals := 0 }) s m args below meth c E 5 zw 0 0 (MQ below (gQ E (fun v9 w1 => ∃ r : Int32, v9 = some (.int r) ∧ (zw = w1 ∧ r = res))) args s 0 0 (gA E)) 3 [(0, .ref (ca 0)), (1, .int mk), (2, .int (nI ff)), (3, .int (nI tt)), (4, .int (nI i))] [] := by
  obtain ⟨hX, h4, h5, h6, h7, hL1, hL2, hL3⟩ := id hC
  obtain ⟨fs1, hq1⟩ := hL1.cell
  obtain ⟨fs2, hq2⟩ := hL2.cell
  obtain ⟨fs3, hq3⟩ := hL3.cell
  intro n
  induction n with
  | zero =>
    intro i hi hR
    obtain rfl : i = tt + 1 := by omega
    refine v_iload C dX5_firstLack_3 rfl ?_
    refine v_iload_n C dX5_firstLack_5 rfl rfl ?_
    refine v_icmp_gt (tgt := 33) C dX5_firstLack_6 (by decide) (fun c6 => ?_) (fun c6 => absurd (by rw [fa_lt, nI_toInt (by omega), nI_toInt (by omega)]; omega) c6)
    refine v_bipush (v := (-9)) C dX5_firstLack_33 (by decide) ?_
    refine v_iret C hr dX5_firstLack_35 (Nat.le_of_ble_eq_true rfl) (Nat.le_of_ble_eq_true rfl) ?_
    exact ⟨_, rfl, ⟨rfl, hR⟩⟩
  | succ n ih =>
    intro i hi hR
    refine v_iload C dX5_firstLack_3 rfl ?_
    refine v_iload_n C dX5_firstLack_5 rfl rfl ?_
    refine v_icmp_gt (tgt := 33) C dX5_firstLack_6 (by decide) (fun c6 => absurd c6 (by rw [fa_lt, nI_toInt (by omega), nI_toInt (by omega)]; omega)) (fun c6 => ?_)
    refine v_aload_n C dX5_firstLack_9 rfl rfl ?_
    refine v_get (v := .ref (ca 4)) C inX5_firstLack_X5 0 hX rfl 4 (by decide) kwX5_firstLack_25 rfl rfl dX5_firstLack_10 ?_
    refine v_getN C inX5_firstLack_X4 rfl 4 h4 rfl 0 (by decide) (by decide +kernel) rfl dX5_firstLack_13 ?_
    refine v_iload C dX5_firstLack_16 rfl ?_
    refine v_iald C 5 h5 (vp_in_nI (by omega) (by decide)) dX5_firstLack_18 ?_
    refine v_tov (congrArg dr (nI_clamp (show i < 2 ^ 31 by omega))) ?_
    refine v_iload_n C dX5_firstLack_19 rfl rfl ?_
    refine v_at (pc9 := 20) rfl ?_
    refine v_iand C dX5_firstLack_20 ?_
    refine v_if_eq (tgt := 27) C dX5_firstLack_21 (by decide) (fun c21 => ?_) (fun c21 => ?_)
    · refine v_iincN C dX5_firstLack_27 rfl (by decide) rfl ?_
      refine v_goto (tgt := 3) C dX5_firstLack_30 (by decide) ?_
      exact ih (i + 1) (by omega) (by rw [← hR]; exact (if_pos c21).symm)
    · refine v_iload C dX5_firstLack_24 rfl ?_
      refine v_iret C hr dX5_firstLack_26 (Nat.le_of_ble_eq_true rfl) (Nat.le_of_ble_eq_true rfl) ?_
      exact ⟨_, rfl, ⟨rfl, by rw [← hR]; exact (if_neg c21).symm⟩⟩
set_option maxHeartbeats 4000000 in
set_option maxRecDepth 100000 in
theorem c_X5_firstLack (l : Launch) (E : gE) (zw : va_W) {ca : Nat → Nat} {t0 : Int32} {ar : Nat → Nat → Int32} {dr ch : Nat → Int32} {ns np na : Nat} {qe : Nat → Nat} {pl : Nat → Nat → Nat} (hC : CF E ca zw t0 ar dr ch ns np na qe pl) (hb : ns ≤ 120 ∧ np ≤ 2000 ∧ na ≤ 10) (mk : Int32) {ff tt : Nat} (hft : ff ≤ tt) (htt : tt ≤ 199) : CtI l yX5_firstLack wsX5_firstLack ({ frames := 0, cells := 0, slots := 0, locals := 0 }) E [.ref (ca 0), .int mk, .int (nI ff), .int (nI tt)] zw (fun r w1 => zw = w1 ∧ r = fiT (fun t => dr t &&& mk) (tt + 1 - ff) ff) 0 0 := by
  refine Ct.of (cc := cX5_firstLack) (nL := 5) (ret := (some .int)) (by decide) rfl (Nat.le_of_ble_eq_true rfl) ?_
  intro p e s m args below meth c C hr hnm
  refine v_eqlv (lv9 := [(0, .ref (ca 0)), (1, .int mk), (2, .int (nI ff)), (3, .int (nI tt))]) rfl ?_
  refine v_iload_n C dX5_firstLack_0 rfl rfl ?_
  refine v_istore C dX5_firstLack_1 (by decide) rfl ?_
  exact lp_X5_firstLack C hr hC hb htt _ (tt + 1 - ff) ff (by omega) rfl
theorem inX5_changeWeight_X5 : ∀ x ∈ wsX50, x ∈ wsX5_changeWeight := by decide +kernel
theorem kwX5_changeWeight_29 : Cond.fieldLink RX5 29 "SeriesMarks" "weights" "[I" ∈ wsX5_changeWeight := by decide +kernel
set_option maxHeartbeats 4000000 in
set_option maxRecDepth 100000 in
theorem c_X5_changeWeight (l : Launch) (E : gE) (zw : va_W) {ca : Nat → Nat} {t0 : Int32} {ar : Nat → Nat → Int32} {dr ch : Nat → Int32} {ns np na : Nat} {qe : Nat → Nat} {pl : Nat → Nat → Nat} (hC : CF E ca zw t0 ar dr ch ns np na qe pl) (hb : ns ≤ 120 ∧ np ≤ 2000 ∧ na ≤ 10) {mm : Nat} (hmm : mm < 6) (y : Int32) : CtI l yX5_changeWeight wsX5_changeWeight ({ frames := 0, cells := 0, slots := 0, locals := 0 }) E [.ref (ca 0), .int (nI mm), .int y] zw (fun r w1 => r = ar 22 mm ∧ w1[7]? = some (ca 7, .inl (gI E, 6, .inl (upd (ar 22) mm y))) ∧ oFr 7 zw w1) 0 0 := by
  refine Ct.of (cc := cX5_changeWeight) (nL := 4) (ret := (some .int)) (by decide) rfl (Nat.le_of_ble_eq_true rfl) ?_
  intro p e s m args below meth c C hr hnm
  refine v_eqlv (lv9 := [(0, .ref (ca 0)), (1, .int (nI mm)), (2, .int y)]) rfl ?_
  obtain ⟨hX, h4, h5, h6, h7, hL1, hL2, hL3⟩ := id hC
  obtain ⟨fs1, hq1⟩ := hL1.cell
  obtain ⟨fs2, hq2⟩ := hL2.cell
  obtain ⟨fs3, hq3⟩ := hL3.cell
  refine v_aload_n C dX5_changeWeight_0 rfl rfl ?_
  refine v_get (v := .ref (ca 7)) C inX5_changeWeight_X5 0 hX rfl 5 (by decide) kwX5_changeWeight_29 rfl rfl dX5_changeWeight_1 ?_
  refine v_iload_n C dX5_changeWeight_4 rfl rfl ?_
  refine v_iald C 7 h7 (vp_in_nI hmm (by decide)) dX5_changeWeight_5 ?_
  refine v_tov (congrArg (ar 22) (nI_clamp (show mm < 2 ^ 31 by omega))) ?_
  refine v_istore_n C dX5_changeWeight_6 rfl (by decide) rfl ?_
  refine v_aload_n C dX5_changeWeight_7 rfl rfl ?_
  refine v_get (v := .ref (ca 7)) C inX5_changeWeight_X5 0 hX rfl 5 (by decide) kwX5_changeWeight_29 rfl rfl dX5_changeWeight_8 ?_
  refine v_iload_n C dX5_changeWeight_11 rfl rfl ?_
  refine v_iload_n C dX5_changeWeight_12 rfl rfl ?_
  refine v_at (pc9 := 13) rfl ?_
  refine vo_iast C 7 h7 (vp_in_nI hmm (by decide)) dX5_changeWeight_13 (fun zw ha hO1 => ?_)
  rw [nI_clamp (show mm < 2 ^ 31 by omega)] at ha
  refine v_iload_n C dX5_changeWeight_14 rfl rfl ?_
  refine v_iret C hr dX5_changeWeight_15 (Nat.le_of_ble_eq_true rfl) (Nat.le_of_ble_eq_true rfl) ?_
  exact ⟨_, rfl, ⟨rfl, ha, hO1⟩⟩
theorem inX5_lossOf_X5 : ∀ x ∈ wsX50, x ∈ wsX5_lossOf := by decide +kernel
theorem kwX5_lossOf_29 : Cond.fieldLink RX5 29 "SeriesMarks" "weights" "[I" ∈ wsX5_lossOf := by decide +kernel
set_option maxHeartbeats 4000000 in
set_option maxRecDepth 100000 in
theorem lpa_X5_lossOf {p : Program} {l : Launch} {e : Env} {s : State} {m : MethodId} {args : Array Value} {below : List Frame} {meth : Method} {c : Code} {Q : State → Prop} {E : gE} {zw : va_W} (C : gC p s m args meth c E cX5_lossOf 5 wsX5_lossOf yX5_lossOf.cls) {ca : Nat → Nat} {t0 : Int32} {ar : Nat → Nat → Int32} {dr ch : Nat → Int32} {ns np na : Nat} {qe : Nat → Nat} {pl : Nat → Nat → Nat} (hC : CF E ca zw t0 ar dr ch ns np na qe pl) (hb : ns ≤ 120 ∧ np ≤ 2000 ∧ na ≤ 10) {mk : Int32} (hK : V p l e ({ frames := 3, cells := 0, slots := 0, locals := 64 }) s m args below meth c E 5 zw 0 0 Q 33 [(0, .ref (ca 0)), (1, .int mk), (2, .int (lsA (ar 22) mk 6)), (3, .int (nI 6))] []) : ∀ n i : Nat, i + n = 6 → V p l e ({ frames := 3, cells := 0, slots := 0, locals := 64 }) s m args below meth c E 5 zw 0 0 Q 4 [(0, .ref (ca 0)), (1, .int mk), (2, .int (lsA (ar 22) mk i)), (3, .int (nI i))] [] := by
  obtain ⟨hX, h4, h5, h6, h7, hL1, hL2, hL3⟩ := id hC
  obtain ⟨fs1, hq1⟩ := hL1.cell
  obtain ⟨fs2, hq2⟩ := hL2.cell
  obtain ⟨fs3, hq3⟩ := hL3.cell
  intro n
  induction n with
  | zero =>
    intro i hi
    obtain rfl : i = 6 := by omega
    refine v_iload_n C dX5_lossOf_4 rfl rfl ?_
    refine v_bipush (v := 6) C dX5_lossOf_5 (by decide) ?_
    refine v_icmp_ge (tgt := 33) C dX5_lossOf_7 (by decide) (fun c7 => ?_) (fun c7 => absurd (by rw [fa_le, ti_6, nI_toInt (by omega)]; omega) c7)
    exact hK
  | succ n ih =>
    intro i hi
    refine v_iload_n C dX5_lossOf_4 rfl rfl ?_
    refine v_bipush (v := 6) C dX5_lossOf_5 (by decide) ?_
    refine v_icmp_ge (tgt := 33) C dX5_lossOf_7 (by decide) (fun c7 => absurd c7 (by rw [fa_le, ti_6, nI_toInt (by omega)]; omega)) (fun c7 => ?_)
    refine v_iload_n C dX5_lossOf_10 rfl rfl ?_
    refine v_iload_n C dX5_lossOf_11 rfl rfl ?_
    refine v_callSi C (c_X5_hasBit l E zw _ _ ) (va_cwS 2 C.1.2.2.2.2 gX5_lossOf_X5_hasBit rfl rfl rfl (by decide +kernel) ⟨by decide, by decide⟩) rfl rfl (Nat.le_of_ble_eq_true rfl) dX5_lossOf_12 ⟨Nat.le_of_ble_eq_true rfl, Nat.le_of_ble_eq_true rfl⟩ (fun r w1 hp => ?_)
    obtain ⟨rfl, hr9⟩ := hp
    rw [hr9]
    clear hr9
    refine v_if_eq (tgt := 27) C dX5_lossOf_15 (by decide) (fun c15 => ?_) (fun c15 => ?_)
    · have c15 := b01_0 c15
      refine v_pick (lv9 := [(0, .ref (ca 0)), (1, .int mk), (2, .int (lsA (ar 22) mk (i + 1))), (3, .int (nI i))]) ⟨rfl, rfl, by first | (rw [show lsA (ar 22) mk (i + 1) = lsA (ar 22) mk i + ar 22 i from congrArg (lsA (ar 22) mk i + ·) (if_pos c15)]; rfl) | (rw [show lsA (ar 22) mk (i + 1) = lsA (ar 22) mk i + 0 from congrArg (lsA (ar 22) mk i + ·) (if_neg c15), Int32.add_zero]; rfl), rfl, trivial⟩ ?_
      refine v_iincN C dX5_lossOf_27 rfl (by decide) rfl ?_
      refine v_goto (tgt := 4) C dX5_lossOf_30 (by decide) ?_
      exact ih (i + 1) (by omega)
    · have c15 := b01_n c15
      refine v_iload_n C dX5_lossOf_18 rfl rfl ?_
      refine v_aload_n C dX5_lossOf_19 rfl rfl ?_
      refine v_get (v := .ref (ca 7)) C inX5_lossOf_X5 0 hX rfl 5 (by decide) kwX5_lossOf_29 rfl rfl dX5_lossOf_20 ?_
      refine v_iload_n C dX5_lossOf_23 rfl rfl ?_
      refine v_iald C 7 h7 (vp_in_nI (by omega) (by decide)) dX5_lossOf_24 ?_
      refine v_tov (congrArg (ar 22) (nI_clamp (show i < 2 ^ 31 by omega))) ?_
      refine v_iadd C dX5_lossOf_25 ?_
      refine v_istore_n C dX5_lossOf_26 rfl (by decide) rfl ?_
      refine v_pick (lv9 := [(0, .ref (ca 0)), (1, .int mk), (2, .int (lsA (ar 22) mk (i + 1))), (3, .int (nI i))]) ⟨rfl, rfl, by first | (rw [show lsA (ar 22) mk (i + 1) = lsA (ar 22) mk i + ar 22 i from congrArg (lsA (ar 22) mk i + ·) (if_pos c15)]; rfl) | (rw [show lsA (ar 22) mk (i + 1) = lsA (ar 22) mk i + 0 from congrArg (lsA (ar 22) mk i + ·) (if_neg c15), Int32.add_zero]; rfl), rfl, trivial⟩ ?_
      refine v_iincN C dX5_lossOf_27 rfl (by decide) rfl ?_
      refine v_goto (tgt := 4) C dX5_lossOf_30 (by decide) ?_
      exact ih (i + 1) (by omega)
theorem kwX5_lossOf_19 : Cond.fieldLink RX5 19 "SeriesMarks" "askings" "Ljava/util/ArrayList;" ∈ wsX5_lossOf := by decide +kernel
theorem kwX5_lossOf_cl178 : Cond.classLink RX5 178 "SeriesMarks$Asking" ∈ wsX5_lossOf := by decide +kernel
theorem inX5_lossOf_X0 : ∀ x ∈ wsX00, x ∈ wsX5_lossOf := by decide +kernel
set_option maxHeartbeats 4000000 in
set_option maxRecDepth 100000 in
theorem lpb_X5_lossOf {p : Program} {l : Launch} {e : Env} {s : State} {m : MethodId} {args : Array Value} {below : List Frame} {meth : Method} {c : Code} {Q : State → Prop} {E : gE} {zw : va_W} (C : gC p s m args meth c E cX5_lossOf 5 wsX5_lossOf yX5_lossOf.cls) {ca : Nat → Nat} {t0 : Int32} {ar : Nat → Nat → Int32} {dr ch : Nat → Int32} {ns np na : Nat} {qe : Nat → Nat} {pl : Nat → Nat → Nat} (hC : CF E ca zw t0 ar dr ch ns np na qe pl) (hb : ns ≤ 120 ∧ np ≤ 2000 ∧ na ≤ 10) {mk : Int32} (hK : V p l e ({ frames := 3, cells := 0, slots := 0, locals := 64 }) s m args below meth c E 5 zw 0 0 Q 83 [(0, .ref (ca 0)), (1, .int mk), (2, .int (lsB (lsA (ar 22) mk 6) (ar 18) (ar 21) mk na)), (3, .int (nI na))] []) : ∀ n i : Nat, i + n = na → V p l e ({ frames := 3, cells := 0, slots := 0, locals := 64 }) s m args below meth c E 5 zw 0 0 Q 35 [(0, .ref (ca 0)), (1, .int mk), (2, .int (lsB (lsA (ar 22) mk 6) (ar 18) (ar 21) mk i)), (3, .int (nI i))] [] := by
  obtain ⟨hX, h4, h5, h6, h7, hL1, hL2, hL3⟩ := id hC
  obtain ⟨fs1, hq1⟩ := hL1.cell
  obtain ⟨fs2, hq2⟩ := hL2.cell
  obtain ⟨fs3, hq3⟩ := hL3.cell
  intro n
  induction n with
  | zero =>
    intro i hi
    obtain rfl : i = na := by omega
    refine v_iload_n C dX5_lossOf_35 rfl rfl ?_
    refine v_aload_n C dX5_lossOf_36 rfl rfl ?_
    refine v_get (v := .ref (ca 3)) C inX5_lossOf_X5 0 hX rfl 3 (by decide) kwX5_lossOf_19 rfl rfl dX5_lossOf_37 ?_
    refine v_callVi C (hL3.size l) (cwV 0 C.1.2.2.2.2 gX5_lossOf_Jx4a65c_size_8abf5 rfl rfl rfl (by decide +kernel) ⟨by decide, by decide⟩) 3 0 hq3 rfl rfl rfl (Nat.le_of_ble_eq_true rfl) dX5_lossOf_40 ⟨Nat.le_of_ble_eq_true rfl, Nat.le_of_ble_eq_true rfl⟩ (fun r w1 hp => ?_)
    obtain ⟨rfl, rfl⟩ := hp
    refine v_icmp_ge (tgt := 83) C dX5_lossOf_43 (by decide) (fun c43 => ?_) (fun c43 => absurd (nI_le (Nat.le_refl _) (by omega)) c43)
    exact hK
  | succ n ih =>
    intro i hi
    refine v_iload_n C dX5_lossOf_35 rfl rfl ?_
    refine v_aload_n C dX5_lossOf_36 rfl rfl ?_
    refine v_get (v := .ref (ca 3)) C inX5_lossOf_X5 0 hX rfl 3 (by decide) kwX5_lossOf_19 rfl rfl dX5_lossOf_37 ?_
    refine v_callVi C (hL3.size l) (cwV 0 C.1.2.2.2.2 gX5_lossOf_Jx4a65c_size_8abf5 rfl rfl rfl (by decide +kernel) ⟨by decide, by decide⟩) 3 0 hq3 rfl rfl rfl (Nat.le_of_ble_eq_true rfl) dX5_lossOf_40 ⟨Nat.le_of_ble_eq_true rfl, Nat.le_of_ble_eq_true rfl⟩ (fun r w1 hp => ?_)
    obtain ⟨rfl, rfl⟩ := hp
    refine v_icmp_ge (tgt := 83) C dX5_lossOf_43 (by decide) (fun c43 => absurd c43 (nI_ge (by omega) (by omega))) (fun c43 => ?_)
    refine v_aload_n C dX5_lossOf_46 rfl rfl ?_
    refine v_get (v := .ref (ca 3)) C inX5_lossOf_X5 0 hX rfl 3 (by decide) kwX5_lossOf_19 rfl rfl dX5_lossOf_47 ?_
    refine v_iload_n C dX5_lossOf_50 rfl rfl ?_
    refine v_callVa C (hL3.get l (j := i) (by omega)) (cwV 1 C.1.2.2.2.2 gX5_lossOf_Jx4a65c_get_915e3 rfl rfl rfl (by decide +kernel) ⟨by decide, by decide⟩) 3 0 hq3 rfl rfl rfl (Nat.le_of_ble_eq_true rfl) dX5_lossOf_51 ⟨Nat.le_of_ble_eq_true rfl, Nat.le_of_ble_eq_true rfl⟩ (fun rq w1 hp => ?_)
    obtain ⟨rfl, hob⟩ := hp
    refine v_at (pc9 := 54) rfl ?_
    refine v_cast C kwX5_lossOf_cl178 (pl 3 i) hob rfl dX5_lossOf_54 ?_
    refine v_astore C dX5_lossOf_57 (by decide) rfl ?_
    refine v_aload C dX5_lossOf_59 rfl ?_
    refine v_getN C inX5_lossOf_X0 rfl (pl 3 i) hob rfl 0 (by decide) (by decide +kernel) rfl dX5_lossOf_61 ?_
    refine v_iload_n C dX5_lossOf_64 rfl rfl ?_
    refine v_iand C dX5_lossOf_65 ?_
    refine v_if_eq (tgt := 77) C dX5_lossOf_66 (by decide) (fun c66 => ?_) (fun c66 => ?_)
    · refine v_pick (lv9 := [(0, .ref (ca 0)), (1, .int mk), (2, .int (lsB (lsA (ar 22) mk 6) (ar 18) (ar 21) mk (i + 1))), (3, .int (nI i))]) ⟨rfl, rfl, by first | (rw [show (lsB (lsA (ar 22) mk 6) (ar 18) (ar 21) mk (i + 1)) = (lsB (lsA (ar 22) mk 6) (ar 18) (ar 21) mk i) + ar 21 i from congrArg ((lsB (lsA (ar 22) mk 6) (ar 18) (ar 21) mk i) + ·) (if_neg c66)]; rfl) | (rw [show (lsB (lsA (ar 22) mk 6) (ar 18) (ar 21) mk (i + 1)) = (lsB (lsA (ar 22) mk 6) (ar 18) (ar 21) mk i) + 0 from congrArg ((lsB (lsA (ar 22) mk 6) (ar 18) (ar 21) mk i) + ·) (if_pos c66), Int32.add_zero]; rfl), rfl, trivial⟩ ?_
      refine v_iincN C dX5_lossOf_77 rfl (by decide) rfl ?_
      refine v_goto (tgt := 35) C dX5_lossOf_80 (by decide) ?_
      exact ih (i + 1) (by omega)
    · refine v_iload_n C dX5_lossOf_69 rfl rfl ?_
      refine v_aload C dX5_lossOf_70 rfl ?_
      refine v_getN C inX5_lossOf_X0 rfl (pl 3 i) hob rfl 4 (by decide) (by decide +kernel) rfl dX5_lossOf_72 ?_
      refine v_iadd C dX5_lossOf_75 ?_
      refine v_istore_n C dX5_lossOf_76 rfl (by decide) rfl ?_
      refine v_pick (lv9 := [(0, .ref (ca 0)), (1, .int mk), (2, .int (lsB (lsA (ar 22) mk 6) (ar 18) (ar 21) mk (i + 1))), (3, .int (nI i))]) ⟨rfl, rfl, by first | (rw [show (lsB (lsA (ar 22) mk 6) (ar 18) (ar 21) mk (i + 1)) = (lsB (lsA (ar 22) mk 6) (ar 18) (ar 21) mk i) + ar 21 i from congrArg ((lsB (lsA (ar 22) mk 6) (ar 18) (ar 21) mk i) + ·) (if_neg c66)]; rfl) | (rw [show (lsB (lsA (ar 22) mk 6) (ar 18) (ar 21) mk (i + 1)) = (lsB (lsA (ar 22) mk 6) (ar 18) (ar 21) mk i) + 0 from congrArg ((lsB (lsA (ar 22) mk 6) (ar 18) (ar 21) mk i) + ·) (if_pos c66), Int32.add_zero]; rfl), rfl, trivial⟩ ?_
      refine v_iincN C dX5_lossOf_77 rfl (by decide) rfl ?_
      refine v_goto (tgt := 35) C dX5_lossOf_80 (by decide) ?_
      exact ih (i + 1) (by omega)
set_option maxHeartbeats 4000000 in
set_option maxRecDepth 100000 in
theorem c_X5_lossOf (l : Launch) (E : gE) (zw : va_W) {ca : Nat → Nat} {t0 : Int32} {ar : Nat → Nat → Int32} {dr ch : Nat → Int32} {ns np na : Nat} {qe : Nat → Nat} {pl : Nat → Nat → Nat} (hC : CF E ca zw t0 ar dr ch ns np na qe pl) (hb : ns ≤ 120 ∧ np ≤ 2000 ∧ na ≤ 10) (mk : Int32) : CtI l yX5_lossOf wsX5_lossOf ({ frames := 3, cells := 0, slots := 0, locals := 64 }) E [.ref (ca 0), .int mk] zw (fun r w1 => zw = w1 ∧ r = (lsB (lsA (ar 22) mk 6) (ar 18) (ar 21) mk na)) 0 0 := by
  refine Ct.of (cc := cX5_lossOf) (nL := 5) (ret := (some .int)) (by decide) rfl (Nat.le_of_ble_eq_true rfl) ?_
  intro p e s m args below meth c C hr hnm
  refine v_eqlv (lv9 := [(0, .ref (ca 0)), (1, .int mk)]) rfl ?_
  refine v_iconst (v := 0) C dX5_lossOf_0 (by decide) ?_
  refine v_istore_n C dX5_lossOf_1 rfl (by decide) rfl ?_
  refine v_iconst (v := 0) C dX5_lossOf_2 (by decide) ?_
  refine v_tov nI_0.symm ?_
  refine v_istore_n C dX5_lossOf_3 rfl (by decide) rfl ?_
  refine lpa_X5_lossOf C hC hb ?_ 6 0 rfl
  refine v_iconst (v := 0) C dX5_lossOf_33 (by decide) ?_
  refine v_tov nI_0.symm ?_
  refine v_istore_n C dX5_lossOf_34 rfl (by decide) rfl ?_
  refine lpb_X5_lossOf C hC hb ?_ na 0 (Nat.zero_add _)
  refine v_iload_n C dX5_lossOf_83 rfl rfl ?_
  refine v_iret C hr dX5_lossOf_84 (Nat.le_of_ble_eq_true rfl) (Nat.le_of_ble_eq_true rfl) ?_
  exact ⟨_, rfl, ⟨rfl, rfl⟩⟩
