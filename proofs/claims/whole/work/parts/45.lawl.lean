set_option maxHeartbeats 4000000 in
set_option maxRecDepth 100000 in
theorem law_step {p : Program} {l : Launch} {e : Env} {s : State} {m : MethodId} {below : List Frame} {meth : Method} {c : Code} {Q : State → Prop} {E : gE} {b L : Nat} {xs : Nat → Int32} (C : gC p s m #[Value.ref b] meth c E cL_law 4 wsL_law RL) (hX : va_X b L xs s s.heap) (hbl : b < s.heap.size) (hbA : ¬ gA E b) (hL : L ≤ 2560) {a1 b1 i cells slots : Nat} (hi : i + 5 ≤ L) (hce : cells + 4 ≤ 600000) (hsl : slots + 6009 ≤ 7302250) {zw : va_W} (hV : INV E a1 b1 zw) (hK : ∀ w1 : va_W, INV E a1 b1 w1 → V p l e room_1 s m #[Value.ref b] below meth c E 4 w1 (cells + 4) (slots + 6009) Q 1174 [(0, .ref b), (1, .ref a1), (2, .ref b1), (3, .int (nI i))] []) : V p l e room_1 s m #[Value.ref b] below meth c E 4 zw cells slots Q 26 [(0, .ref b), (1, .ref a1), (2, .ref b1), (3, .int (nI i))] [] := by
  refine v_aload_n C dL_law_26 rfl rfl ?_
  refine v_iload_n C dL_law_27 rfl rfl ?_
  refine v_sld C hX hbl hbA (vp_in_nI (by omega) (by omega)) dL_law_28 ?_
  refine v_bipush (v := 31) C dL_law_29 (by decide) ?_
  refine v_iand C dL_law_31 ?_
  obtain ⟨j, hj, ej⟩ := pk_andE (xs (nI i).toNatClampNeg) (m := 31) 5 (by decide)
  refine v_tov (y := nI j) ej ?_
  clear ej
  rcases (show j = 0 ∨ j = 1 ∨ j = 2 ∨ j = 3 ∨ j = 4 ∨ j = 5 ∨ j = 6 ∨ j = 7 ∨ j = 8 ∨ j = 9 ∨ j = 10 ∨ j = 11 ∨ j = 12 ∨ j = 13 ∨ j = 14 ∨ j = 15 ∨ j = 16 ∨ j = 17 ∨ j = 18 ∨ j = 19 ∨ j = 20 ∨ j = 21 ∨ j = 22 ∨ j = 23 ∨ j = 24 ∨ j = 25 ∨ 26 ≤ j by omega) with rfl | rfl | rfl | rfl | rfl | rfl | rfl | rfl | rfl | rfl | rfl | rfl | rfl | rfl | rfl | rfl | rfl | rfl | rfl | rfl | rfl | rfl | rfl | rfl | rfl | rfl | hj2
  · refine v_tableIn (tgt := 152) C dL_law_32 (by decide) (by decide) rfl (by decide) ?_
    exact lc_pass C hX hbl hbA hL hi hce hsl hV hK
  · refine v_tableIn (tgt := 175) C dL_law_32 (by decide) (by decide) rfl (by decide) ?_
    exact lc_tell C hX hbl hbA hL hi hce hsl hV hK
  · refine v_tableIn (tgt := 208) C dL_law_32 (by decide) (by decide) rfl (by decide) ?_
    exact lc_series C hX hbl hbA hL hi hce hsl hV hK
  · refine v_tableIn (tgt := 241) C dL_law_32 (by decide) (by decide) rfl (by decide) ?_
    exact lc_find C hX hbl hbA hL hi hce hsl hV hK
  · refine v_tableIn (tgt := 264) C dL_law_32 (by decide) (by decide) rfl (by decide) ?_
    exact lc_growth C hX hbl hbA hL hi hce hsl hV hK
  · refine v_tableIn (tgt := 308) C dL_law_32 (by decide) (by decide) rfl (by decide) ?_
    exact lc_seen C hX hbl hbA hL hi hce hsl hV hK
  · refine v_tableIn (tgt := 341) C dL_law_32 (by decide) (by decide) rfl (by decide) ?_
    exact lc_values C hX hbl hbA hL hi hce hsl hV hK
  · refine v_tableIn (tgt := 384) C dL_law_32 (by decide) (by decide) rfl (by decide) ?_
    exact lc_unlike C hX hbl hbA hL hi hce hsl hV hK
  · refine v_tableIn (tgt := 427) C dL_law_32 (by decide) (by decide) rfl (by decide) ?_
    exact lc_kept C hX hbl hbA hL hi hce hsl hV hK
  · refine v_tableIn (tgt := 460) C dL_law_32 (by decide) (by decide) rfl (by decide) ?_
    exact lc_worst C hX hbl hbA hL hi hce hsl hV hK
  · refine v_tableIn (tgt := 493) C dL_law_32 (by decide) (by decide) rfl (by decide) ?_
    exact lc_drop C hX hbl hbA hL hi hce hsl hV hK
  · refine v_tableIn (tgt := 542) C dL_law_32 (by decide) (by decide) rfl (by decide) ?_
    exact lc_fold C hX hbl hbA hL hi hce hsl hV hK
  · refine v_tableIn (tgt := 585) C dL_law_32 (by decide) (by decide) rfl (by decide) ?_
    exact lc_dropped C hX hbl hbA hL hi hce hsl hV hK
  · refine v_tableIn (tgt := 618) C dL_law_32 (by decide) (by decide) rfl (by decide) ?_
    exact lc_chief C hX hbl hbA hL hi hce hsl hV hK
  · refine v_tableIn (tgt := 661) C dL_law_32 (by decide) (by decide) rfl (by decide) ?_
    exact lc_shortAt C hX hbl hbA hL hi hce hsl hV hK
  · refine v_tableIn (tgt := 694) C dL_law_32 (by decide) (by decide) rfl (by decide) ?_
    exact lc_ask C hX hbl hbA hL hi hce hsl hV hK
  · refine v_tableIn (tgt := 737) C dL_law_32 (by decide) (by decide) rfl (by decide) ?_
    exact lc_answer C hX hbl hbA hL hi hce hsl hV hK
  · refine v_tableIn (tgt := 791) C dL_law_32 (by decide) (by decide) rfl (by decide) ?_
    exact lc_keys C hX hbl hbA hL hi hce hsl hV hK
  · refine v_tableIn (tgt := 834) C dL_law_32 (by decide) (by decide) rfl (by decide) ?_
    exact lc_key C hX hbl hbA hL hi hce hsl hV hK
  · refine v_tableIn (tgt := 887) C dL_law_32 (by decide) (by decide) rfl (by decide) ?_
    exact lc_works C hX hbl hbA hL hi hce hsl hV hK
  · refine v_tableIn (tgt := 930) C dL_law_32 (by decide) (by decide) rfl (by decide) ?_
    exact lc_lacks C hX hbl hbA hL hi hce hsl hV hK
  · refine v_tableIn (tgt := 973) C dL_law_32 (by decide) (by decide) rfl (by decide) ?_
    exact lc_weigh C hX hbl hbA hL hi hce hsl hV hK
  · refine v_tableIn (tgt := 1032) C dL_law_32 (by decide) (by decide) rfl (by decide) ?_
    exact lc_loss C hX hbl hbA hL hi hce hsl hV hK
  · refine v_tableIn (tgt := 1055) C dL_law_32 (by decide) (by decide) rfl (by decide) ?_
    exact lc_plan C hX hbl hbA hL hi hce hsl hV hK
  · refine v_tableIn (tgt := 1098) C dL_law_32 (by decide) (by decide) rfl (by decide) ?_
    exact lc_bill C hX hbl hbA hL hi hce hsl hV hK
  · refine v_tableIn (tgt := 1151) C dL_law_32 (by decide) (by decide) rfl (by decide) ?_
    exact lc_count C hX hbl hbA hL hi hce hsl hV hK
  · exact v_tableOut (tgt := 1174) C dL_law_32 (Or.inr (by rw [nI_toInt (by omega)]; omega)) (by decide) (v_widen (kc := cells + 4) (ks := slots + 6009) (by omega) (by omega) (hK zw hV))
theorem law_end {p : Program} {l : Launch} {e : Env} {s : State} {m : MethodId} {below : List Frame} {meth : Method} {c : Code} {E : gE} {b : Nat} (C : gC p s m #[Value.ref b] meth c E cL_law 4 wsL_law RL) (hr : meth.sig.returnType = ret) (hB : gB E = s.heap.size) {cells slots : Nat} (hce : cells ≤ 600000) (hsl : slots ≤ 7302250) {zw : va_W} {lv : List (Nat × Value)} : V p l e room_1 s m #[Value.ref b] below meth c E 4 zw cells slots (lw_Z below #[Value.ref b] s) 1180 lv [] := by
  refine v_iconst (v := 1) C dL_law_1180 (by decide) ?_
  intro H locs ls h1 h2 h3
  refine va_forget (fun q hq => by rw [← hB]; exact h2.2.2 q hq) ?_
  exact W.widen hce hsl (lw_ret C.1.1 C.1.2.1 hr C.2.1 dL_law_1181)
set_option maxHeartbeats 4000000 in
set_option maxRecDepth 100000 in
theorem law_loop {p : Program} {l : Launch} {e : Env} {s : State} {m : MethodId} {below : List Frame} {meth : Method} {c : Code} {E : gE} {b L : Nat} {xs : Nat → Int32} (C : gC p s m #[Value.ref b] meth c E cL_law 4 wsL_law RL) (hr : meth.sig.returnType = ret) (hB : gB E = s.heap.size) (hX : va_X b L xs s s.heap) (hbl : b < s.heap.size) (hbA : ¬ gA E b) (hL : L ≤ 2560) {a1 b1 : Nat} : ∀ (n k : Nat) (zw : va_W), L < 5 * k + 5 * n + 5 → 5 * k ≤ L → INV E a1 b1 zw → V p l e room_1 s m #[Value.ref b] below meth c E 4 zw (100 + 4 * k) (30000 + 6009 * k) (lw_Z below #[Value.ref b] s) 18 [(0, .ref b), (1, .ref a1), (2, .ref b1), (3, .int (nI (5 * k)))] [] := by
  intro n
  induction n with
  | zero =>
    intro k zw h1 h2 hV
    refine v_iload_n C dL_law_18 rfl rfl ?_
    refine v_aload_n C dL_law_19 rfl rfl ?_
    refine v_slen C hX hbl hbA dL_law_20 ?_
    refine v_iconst (v := 5) C dL_law_21 (by decide) ?_
    refine v_isub C dL_law_22 ?_
    refine v_icmp_gt (tgt := 1180) C dL_law_23 (by decide) (fun c23 => ?_) (fun c23 => ?_)
    · exact law_end C hr hB (by omega) (by omega)
    · rw [show (5 : Int32) = nI 5 from rfl, fa_lt, pk_sub_toInt (by omega) (by omega), nI_toInt (by omega)] at c23
      omega
  | succ n ih =>
    intro k zw h1 h2 hV
    refine v_iload_n C dL_law_18 rfl rfl ?_
    refine v_aload_n C dL_law_19 rfl rfl ?_
    refine v_slen C hX hbl hbA dL_law_20 ?_
    refine v_iconst (v := 5) C dL_law_21 (by decide) ?_
    refine v_isub C dL_law_22 ?_
    refine v_icmp_gt (tgt := 1180) C dL_law_23 (by decide) (fun c23 => ?_) (fun c23 => ?_)
    · exact law_end C hr hB (by omega) (by omega)
    · rw [show (5 : Int32) = nI 5 from rfl, fa_lt, pk_sub_toInt (by omega) (by omega), nI_toInt (by omega)] at c23
      refine law_step C hX hbl hbA hL (i := 5 * k) (by omega) (by omega) (by omega) hV (fun w1 hV1 => ?_)
      refine v_iinc (d := 5) C dL_law_1174 (by decide) rfl (by decide) rfl ?_
      refine v_goto (tgt := 18) C dL_law_1177 (by decide) ?_
      refine v_eqlv (lv9 := [(0, .ref b), (1, .ref a1), (2, .ref b1), (3, .int (nI (5 * (k + 1))))]) (by rw [show nI (5 * k) + 5 = nI (5 * (k + 1)) from nI_add (5 * k) 5]; rfl) ?_
      exact v_widen (Nat.le_of_eq (by omega)) (Nat.le_of_eq (by omega)) (ih (k + 1) w1 (by omega) (by omega) hV1)
