theorem cut_at {L : List Int32} (h : Sor L) (v : Int32) : ∃ K, K ≤ L.length ∧ (∀ i (hi : i < L.length), i < K → L[i] < v) ∧ (∀ i (hi : i < L.length), K ≤ i → ¬ L[i] < v) := by
  by_cases hx : ∃ i, i < L.length ∧ ∀ hi : i < L.length, ¬ L[i] < v
  · obtain ⟨i, h1, h2, h3⟩ := fb_first (p := fun i => ∀ hi : i < L.length, ¬ L[i] < v) hx
    refine ⟨i, by omega, fun j hj hji => ?_, fun j hj hij hv => ?_⟩
    · have := h3 j hji
      by_cases q : L[j] < v
      · exact q
      · exact absurd (fun _ => q) this
    · rcases Nat.lt_or_ge i j with q | q
      · exact h2 h1 (lt_tr (h.get q hj) hv)
      · obtain rfl : i = j := by omega
        exact h2 h1 hv
  · refine ⟨L.length, Nat.le_refl _, fun i hi _ => ?_, fun i hi h2 => absurd hi (by omega)⟩
    by_cases q : L[i] < v
    · exact q
    · exact absurd ⟨i, hi, fun _ => q⟩ hx
set_option maxHeartbeats 4000000 in
set_option maxRecDepth 100000 in
theorem lpE_X1_howManyBelow {p : Program} {l : Launch} {e : Env} {s : State} {m : MethodId} {args : Array Value} {below : List Frame} {meth : Method} {c : Code} {E : gE} {zw : va_W} (C : gC p s m args meth c E cX1_howManyBelow 4 wsX1_howManyBelow yX1_howManyBelow.cls) (hr : meth.sig.returnType = some .int) {q a b : Nat} {n : Int32} (he : zw[q]? = some (a, .inr (2, [.ref b, .int n]))) {K : Nat} {v : Int32} : V p l e ({ frames := 2, cells := 0, slots := 0, locals := 41 }) s m args below meth c E 4 zw 0 0 (MQ below (gQ E (fun v9 w1 => ∃ r : Int32, v9 = some (.int r) ∧ (zw = w1 ∧ r = nI K))) args s 0 0 (gA E)) 10 [(0, .ref a), (1, .int v), (2, .int (nI K)), (3, .int (nI 0))] [] := by
  refine v_iload_n C dX1_howManyBelow_10 rfl rfl ?_
  refine v_if_le (tgt := 49) C dX1_howManyBelow_11 (by decide) (fun c11 => ?_) (fun c11 => absurd (by decide) c11)
  refine v_iload_n C dX1_howManyBelow_49 rfl rfl ?_
  exact v_iret C hr dX1_howManyBelow_50 (Nat.le_refl _) (Nat.le_refl _) ⟨_, rfl, ⟨rfl, rfl⟩⟩
theorem inX1_howManyBelow_X1 : ∀ x ∈ wsX10, x ∈ wsX1_howManyBelow := by decide +kernel
theorem kwX1_howManyBelow_15 : Cond.fieldLink RX1 15 "SeriesMarks$NameSet" "size" "I" ∈ wsX1_howManyBelow := by decide +kernel
theorem kwX1_howManyBelow_9 : Cond.fieldLink RX1 9 "SeriesMarks$NameSet" "row" "[I" ∈ wsX1_howManyBelow := by decide +kernel
set_option maxHeartbeats 4000000 in
set_option maxRecDepth 100000 in
theorem lp_X1_howManyBelow {p : Program} {l : Launch} {e : Env} {s : State} {m : MethodId} {args : Array Value} {below : List Frame} {meth : Method} {c : Code} {E : gE} {zw : va_W} (C : gC p s m args meth c E cX1_howManyBelow 4 wsX1_howManyBelow yX1_howManyBelow.cls) (hr : meth.sig.returnType = some .int) {q q1 a b : Nat} {L : List Int32} {f : Nat → Int32} (he : zw[q]? = some (a, .inr (2, [.ref b, .int (nI L.length)]))) (ha : zw[q1]? = some (b, .inl (gI E, 2000, .inl f))) (hS : Sor L) (hU : UL f L) (hlen : L.length ≤ 2000) {v : Int32} {K : Nat} (hK : K ≤ L.length) (h1 : ∀ i (hi : i < L.length), i < K → L[i] < v) (h2 : ∀ i (hi : i < L.length), K ≤ i → ¬ L[i] < v) : ∀ e9 : Nat, e9 < 11 → ∀ b0 : Nat, b0 ≤ K → K < b0 + 2 * 2 ^ e9 → V p l e ({ frames := 2, cells := 0, slots := 0, locals := 41 }) s m args below meth c E 4 zw 0 0 (MQ below (gQ E (fun v9 w1 => ∃ r : Int32, v9 = some (.int r) ∧ (zw = w1 ∧ r = nI K))) args s 0 0 (gA E)) 10 [(0, .ref a), (1, .int v), (2, .int (nI b0)), (3, .int (nI (2 ^ e9)))] [] := by
  intro e9
  induction e9 with
  | zero =>
    intro he9 b0 hb1 hb2
    rw [Nat.pow_zero] at hb2 ⊢
    refine v_iload_n C dX1_howManyBelow_10 rfl rfl ?_
    refine v_if_le (tgt := 49) C dX1_howManyBelow_11 (by decide) (fun c11 => absurd c11 (by decide)) (fun c11 => ?_)
    refine v_iload_n C dX1_howManyBelow_14 rfl rfl ?_
    refine v_iload_n C dX1_howManyBelow_15 rfl rfl ?_
    refine v_iadd C dX1_howManyBelow_16 ?_
    refine v_tov (nI_add _ _) ?_
    refine v_aload_n C dX1_howManyBelow_17 rfl rfl ?_
    refine v_get C inX1_howManyBelow_X1 q he rfl 1 (by decide) kwX1_howManyBelow_15 rfl rfl dX1_howManyBelow_18 ?_
    refine v_icmp_gt (tgt := 42) C dX1_howManyBelow_21 (by decide) (fun c21 => ?_) (fun c21 => ?_)
    · have c21 : L.length < b0 + 1 := by
        rw [fa_lt, nI_toInt (by omega), nI_toInt (by omega)] at c21; omega
      refine v_iload_n C dX1_howManyBelow_42 rfl rfl ?_
      refine v_iconst (v := 1) C dX1_howManyBelow_43 (by decide) ?_
      refine v_ishr C dX1_howManyBelow_44 ?_
      refine v_tov (y := nI 0) (by decide) ?_
      refine v_istore_n C dX1_howManyBelow_45 rfl (by decide) rfl ?_
      refine v_goto (tgt := 10) C dX1_howManyBelow_46 (by decide) ?_
      first
      | (obtain rfl : b0 = K := by omega
         exact lpE_X1_howManyBelow C hr he)
      | (obtain h7 : b0 + 1 = K := by omega
         rw [h7]
         exact lpE_X1_howManyBelow C hr he)
    · have c21 : b0 + 1 ≤ L.length := by
        rcases Nat.lt_or_ge L.length (b0 + 1) with z | z
        · exact absurd (nI_lt z (by omega)) c21
        · exact z
      refine v_aload_n C dX1_howManyBelow_24 rfl rfl ?_
      refine v_get C inX1_howManyBelow_X1 q he rfl 0 (by decide) kwX1_howManyBelow_9 rfl rfl dX1_howManyBelow_25 ?_
      refine v_iload_n C dX1_howManyBelow_28 rfl rfl ?_
      refine v_iload_n C dX1_howManyBelow_29 rfl rfl ?_
      refine v_iadd C dX1_howManyBelow_30 ?_
      refine v_iconst (v := 1) C dX1_howManyBelow_31 (by decide) ?_
      refine v_isub C dX1_howManyBelow_32 ?_
      refine v_tov (y := nI (b0 + 1 - 1)) (by rw [nI_add, show b0 + 1 = (b0 + 1 - 1) + 1 by omega, nI_pred]; rfl) ?_
      refine v_iald C q1 ha (vp_in_nI (by omega) (by decide)) dX1_howManyBelow_33 ?_
      refine v_tov (y := L[b0 + 1 - 1]) (by rw [nI_clamp (show b0 + 1 - 1 < 2 ^ 31 by omega)]; exact hU _ (by omega)) ?_
      refine v_iload_n C dX1_howManyBelow_34 rfl rfl ?_
      refine v_at (pc9 := 35) rfl ?_
      refine v_icmp_ge (tgt := 42) C dX1_howManyBelow_35 (by decide) (fun c35 => ?_) (fun c35 => ?_)
      · have hk9 : K < b0 + 1 := by
          rcases Nat.lt_or_ge K (b0 + 1) with z | z
          · exact z
          · exact absurd (h1 (b0 + 1 - 1) (by omega) (by omega)) (by rw [fa_lt]; rw [fa_le] at c35; omega)
        refine v_iload_n C dX1_howManyBelow_42 rfl rfl ?_
        refine v_iconst (v := 1) C dX1_howManyBelow_43 (by decide) ?_
        refine v_ishr C dX1_howManyBelow_44 ?_
        refine v_tov (y := nI 0) (by decide) ?_
        refine v_istore_n C dX1_howManyBelow_45 rfl (by decide) rfl ?_
        refine v_goto (tgt := 10) C dX1_howManyBelow_46 (by decide) ?_
        first
        | (obtain rfl : b0 = K := by omega
           exact lpE_X1_howManyBelow C hr he)
        | (obtain h7 : b0 + 1 = K := by omega
           rw [h7]
           exact lpE_X1_howManyBelow C hr he)
      · have hk9 : b0 + 1 ≤ K := by
          rcases Nat.lt_or_ge K (b0 + 1) with z | z
          · exact absurd (show L[b0 + 1 - 1] < v by rw [fa_lt]; rw [fa_le] at c35; omega) (h2 (b0 + 1 - 1) (by omega) (by omega))
          · exact z
        refine v_iload_n C dX1_howManyBelow_38 rfl rfl ?_
        refine v_iload_n C dX1_howManyBelow_39 rfl rfl ?_
        refine v_iadd C dX1_howManyBelow_40 ?_
        refine v_tov (nI_add _ _) ?_
        refine v_istore_n C dX1_howManyBelow_41 rfl (by decide) rfl ?_
        refine v_iload_n C dX1_howManyBelow_42 rfl rfl ?_
        refine v_iconst (v := 1) C dX1_howManyBelow_43 (by decide) ?_
        refine v_ishr C dX1_howManyBelow_44 ?_
        refine v_tov (y := nI 0) (by decide) ?_
        refine v_istore_n C dX1_howManyBelow_45 rfl (by decide) rfl ?_
        refine v_goto (tgt := 10) C dX1_howManyBelow_46 (by decide) ?_
        first
        | (obtain rfl : b0 = K := by omega
           exact lpE_X1_howManyBelow C hr he)
        | (obtain h7 : b0 + 1 = K := by omega
           rw [h7]
           exact lpE_X1_howManyBelow C hr he)
  | succ e9 ih =>
    intro he9 b0 hb1 hb2
    have ih := ih (by omega)
    have hj9 : 2 ^ (e9 + 1) = 2 * 2 ^ e9 := by rw [Nat.pow_succ]; omega
    have hj8 : 2 ^ (e9 + 1) ≤ 2 ^ 11 := Nat.pow_le_pow_right (by decide) (by omega)
    have hj31 : 2 ^ (e9 + 1) < 2 ^ 31 := by omega
    have hj0 : 0 < 2 ^ e9 := Nat.two_pow_pos _
    refine v_iload_n C dX1_howManyBelow_10 rfl rfl ?_
    refine v_if_le (tgt := 49) C dX1_howManyBelow_11 (by decide) (fun c11 => absurd c11 (nI_nle (Nat.two_pow_pos _) hj31)) (fun c11 => ?_)
    refine v_iload_n C dX1_howManyBelow_14 rfl rfl ?_
    refine v_iload_n C dX1_howManyBelow_15 rfl rfl ?_
    refine v_iadd C dX1_howManyBelow_16 ?_
    refine v_tov (nI_add _ _) ?_
    refine v_aload_n C dX1_howManyBelow_17 rfl rfl ?_
    refine v_get C inX1_howManyBelow_X1 q he rfl 1 (by decide) kwX1_howManyBelow_15 rfl rfl dX1_howManyBelow_18 ?_
    refine v_icmp_gt (tgt := 42) C dX1_howManyBelow_21 (by decide) (fun c21 => ?_) (fun c21 => ?_)
    · have c21 : L.length < b0 + (2 ^ (e9 + 1)) := by
        rw [fa_lt, nI_toInt (by omega), nI_toInt (by omega)] at c21; omega
      refine v_iload_n C dX1_howManyBelow_42 rfl rfl ?_
      refine v_iconst (v := 1) C dX1_howManyBelow_43 (by decide) ?_
      refine v_ishr C dX1_howManyBelow_44 ?_
      refine v_tov (y := nI (2 ^ e9)) (by rw [pk_shrN hj31 _ 1 (by decide), Nat.pow_succ, Nat.pow_one, Nat.mul_div_cancel _ (by decide)]) ?_
      refine v_istore_n C dX1_howManyBelow_45 rfl (by decide) rfl ?_
      refine v_goto (tgt := 10) C dX1_howManyBelow_46 (by decide) ?_
      first
      | exact ih b0 (by omega) (by omega)
      | exact ih (b0 + 2 ^ (e9 + 1)) (by omega) (by omega)
    · have c21 : b0 + (2 ^ (e9 + 1)) ≤ L.length := by
        rcases Nat.lt_or_ge L.length (b0 + (2 ^ (e9 + 1))) with z | z
        · exact absurd (nI_lt z (by omega)) c21
        · exact z
      refine v_aload_n C dX1_howManyBelow_24 rfl rfl ?_
      refine v_get C inX1_howManyBelow_X1 q he rfl 0 (by decide) kwX1_howManyBelow_9 rfl rfl dX1_howManyBelow_25 ?_
      refine v_iload_n C dX1_howManyBelow_28 rfl rfl ?_
      refine v_iload_n C dX1_howManyBelow_29 rfl rfl ?_
      refine v_iadd C dX1_howManyBelow_30 ?_
      refine v_iconst (v := 1) C dX1_howManyBelow_31 (by decide) ?_
      refine v_isub C dX1_howManyBelow_32 ?_
      refine v_tov (y := nI (b0 + (2 ^ (e9 + 1)) - 1)) (by rw [nI_add, show b0 + (2 ^ (e9 + 1)) = (b0 + (2 ^ (e9 + 1)) - 1) + 1 by omega, nI_pred]; rfl) ?_
      refine v_iald C q1 ha (vp_in_nI (by omega) (by decide)) dX1_howManyBelow_33 ?_
      refine v_tov (y := L[b0 + (2 ^ (e9 + 1)) - 1]) (by rw [nI_clamp (show b0 + (2 ^ (e9 + 1)) - 1 < 2 ^ 31 by omega)]; exact hU _ (by omega)) ?_
      refine v_iload_n C dX1_howManyBelow_34 rfl rfl ?_
      refine v_at (pc9 := 35) rfl ?_
      refine v_icmp_ge (tgt := 42) C dX1_howManyBelow_35 (by decide) (fun c35 => ?_) (fun c35 => ?_)
      · have hk9 : K < b0 + (2 ^ (e9 + 1)) := by
          rcases Nat.lt_or_ge K (b0 + (2 ^ (e9 + 1))) with z | z
          · exact z
          · exact absurd (h1 (b0 + (2 ^ (e9 + 1)) - 1) (by omega) (by omega)) (by rw [fa_lt]; rw [fa_le] at c35; omega)
        refine v_iload_n C dX1_howManyBelow_42 rfl rfl ?_
        refine v_iconst (v := 1) C dX1_howManyBelow_43 (by decide) ?_
        refine v_ishr C dX1_howManyBelow_44 ?_
        refine v_tov (y := nI (2 ^ e9)) (by rw [pk_shrN hj31 _ 1 (by decide), Nat.pow_succ, Nat.pow_one, Nat.mul_div_cancel _ (by decide)]) ?_
        refine v_istore_n C dX1_howManyBelow_45 rfl (by decide) rfl ?_
        refine v_goto (tgt := 10) C dX1_howManyBelow_46 (by decide) ?_
        first
        | exact ih b0 (by omega) (by omega)
        | exact ih (b0 + 2 ^ (e9 + 1)) (by omega) (by omega)
      · have hk9 : b0 + (2 ^ (e9 + 1)) ≤ K := by
          rcases Nat.lt_or_ge K (b0 + (2 ^ (e9 + 1))) with z | z
          · exact absurd (show L[b0 + (2 ^ (e9 + 1)) - 1] < v by rw [fa_lt]; rw [fa_le] at c35; omega) (h2 (b0 + (2 ^ (e9 + 1)) - 1) (by omega) (by omega))
          · exact z
        refine v_iload_n C dX1_howManyBelow_38 rfl rfl ?_
        refine v_iload_n C dX1_howManyBelow_39 rfl rfl ?_
        refine v_iadd C dX1_howManyBelow_40 ?_
        refine v_tov (nI_add _ _) ?_
        refine v_istore_n C dX1_howManyBelow_41 rfl (by decide) rfl ?_
        refine v_iload_n C dX1_howManyBelow_42 rfl rfl ?_
        refine v_iconst (v := 1) C dX1_howManyBelow_43 (by decide) ?_
        refine v_ishr C dX1_howManyBelow_44 ?_
        refine v_tov (y := nI (2 ^ e9)) (by rw [pk_shrN hj31 _ 1 (by decide), Nat.pow_succ, Nat.pow_one, Nat.mul_div_cancel _ (by decide)]) ?_
        refine v_istore_n C dX1_howManyBelow_45 rfl (by decide) rfl ?_
        refine v_goto (tgt := 10) C dX1_howManyBelow_46 (by decide) ?_
        first
        | exact ih b0 (by omega) (by omega)
        | exact ih (b0 + 2 ^ (e9 + 1)) (by omega) (by omega)
theorem v_mono {p : Program} {l : Launch} {e : Env} {R : Room} {s : State} {m : MethodId} {args : Array Value} {below : List Frame} {meth : Method} {c : Code} {cells slots : Nat} {E : gE} {zw : va_W} {nL : Nat} {post post1 : Option Value → va_W → Prop} {mc ms pc : Nat} {lv : List (Nat × Value)} {st : List Value} (h : V p l e R s m args below meth c E nL zw cells slots (MQ below (gQ E post) args s mc ms (gA E)) pc lv st) (hp : ∀ v w1, post v w1 → post1 v w1) : V p l e R s m args below meth c E nL zw cells slots (MQ below (gQ E post1) args s mc ms (gA E)) pc lv st := by
  intro zH locs ls h1 h2 h3 T hT X
  obtain ⟨t, a1, oc, b1, b2, ⟨⟨v, w1, g1, g2, g3⟩, g4⟩, b4⟩ := h zH locs ls h1 h2 h3 T hT X
  exact ⟨t, a1, oc, b1, b2, ⟨⟨v, w1, g1, hp v w1 g2, g3⟩, g4⟩, b4⟩
set_option maxHeartbeats 4000000 in
set_option maxRecDepth 100000 in
theorem c_X1_howManyBelow (l : Launch) (E : gE) (zw : va_W) {q q1 a b : Nat} {L : List Int32} {f : Nat → Int32} (he : zw[q]? = some (a, .inr (2, [.ref b, .int (nI L.length)]))) (ha : zw[q1]? = some (b, .inl (gI E, 2000, .inl f))) (hS : Sor L) (hU : UL f L) (hlen : L.length ≤ 2000) (v : Int32) : CtI l yX1_howManyBelow wsX1_howManyBelow ({ frames := 2, cells := 0, slots := 0, locals := 41 }) E [.ref a, .int v] zw (fun r w1 => zw = w1 ∧ ∃ K, r = nI K ∧ K ≤ L.length ∧ (∀ i (hi : i < L.length), i < K → L[i] < v) ∧ (∀ i (hi : i < L.length), K ≤ i → ¬ L[i] < v)) 0 0 := by
  refine Ct.of (cc := cX1_howManyBelow) (nL := 4) (ret := (some .int)) (by decide) rfl (Nat.le_of_ble_eq_true rfl) ?_
  intro p e s m args below meth c C hr hnm
  refine v_eqlv (lv9 := [(0, .ref a), (1, .int v)]) rfl ?_
  refine v_iconst (v := 0) C dX1_howManyBelow_0 (by decide) ?_
  refine v_tov nI_0.symm ?_
  refine v_istore_n C dX1_howManyBelow_1 rfl (by decide) rfl ?_
  refine v_aload_n C dX1_howManyBelow_2 rfl rfl ?_
  refine v_get C inX1_howManyBelow_X1 q he rfl 1 (by decide) kwX1_howManyBelow_15 rfl rfl dX1_howManyBelow_3 ?_
  refine v_callSi C (c_J6_highestOneBit_0f7a4 l E zw _ (nI_pos' (by omega)) (by rw [fa_lt, nI_toInt (by omega)]; show _ < (65536 : Int32).toInt; rw [show (65536 : Int32).toInt = 65536 from by decide]; omega)) (va_cwS 1 C.1.2.2.2.2 gX1_howManyBelow_J6_highestOneBit_0f7a4 rfl rfl rfl (by decide +kernel) ⟨by decide, by decide⟩) rfl rfl (Nat.le_of_ble_eq_true rfl) dX1_howManyBelow_6 ⟨Nat.le_of_ble_eq_true rfl, Nat.le_of_ble_eq_true rfl⟩ (fun r w1 hp => ?_)
  obtain ⟨rfl, rfl⟩ := hp
  refine v_istore_n C dX1_howManyBelow_9 rfl (by decide) rfl ?_
  obtain ⟨K, hK, h1, h2⟩ := cut_at hS v
  rcases Nat.eq_zero_or_pos L.length with hz | hz
  · obtain rfl : K = 0 := by omega
    refine v_pick (lv9 := [(0, .ref a), (1, .int v), (2, .int (nI 0)), (3, .int (nI 0))]) ⟨rfl, rfl, rfl, by show some (Value.int (hob (nI L.length))) = some (Value.int (nI 0)); rw [hz, nI_0, hob_0], trivial⟩ ?_
    exact v_mono (lpE_X1_howManyBelow C hr he) (fun v9 w1 h => by obtain ⟨r, e1, e2, e3⟩ := h; exact ⟨r, e1, e2, 0, e3, by omega, h1, h2⟩)
  · refine v_pick (lv9 := [(0, .ref a), (1, .int v), (2, .int (nI 0)), (3, .int (nI (2 ^ L.length.log2)))]) ⟨rfl, rfl, rfl, by show some (Value.int (hob (nI L.length))) = some (Value.int (nI (2 ^ L.length.log2))); rw [hob_p _ (by omega) hz], trivial⟩ ?_
    have hlg : L.length.log2 < 11 := (Nat.log2_lt (by omega)).mpr (by omega)
    have hup : L.length < 2 ^ (L.length.log2 + 1) := Nat.lt_log2_self
    exact v_mono (lp_X1_howManyBelow C hr he ha hS hU hlen hK h1 h2 L.length.log2 hlg 0 (Nat.zero_le _) (by rw [Nat.pow_succ] at hup; omega)) (fun v9 w1 h => by obtain ⟨r, e1, e2, e3⟩ := h; exact ⟨r, e1, e2, K, e3, hK, h1, h2⟩)
