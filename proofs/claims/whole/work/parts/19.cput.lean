theorem inX1_put_X1 : ∀ x ∈ wsX10, x ∈ wsX1_put := by decide +kernel
theorem kwX1_put_15 : Cond.fieldLink RX1 15 "SeriesMarks$NameSet" "size" "I" ∈ wsX1_put := by decide +kernel
theorem kwX1_put_9 : Cond.fieldLink RX1 9 "SeriesMarks$NameSet" "row" "[I" ∈ wsX1_put := by decide +kernel
theorem kwX1_put_ac : Cond.methodLink RX1 23 arraycopyName ∈ wsX1_put := by decide +kernel
theorem kwX1_put_an : Cond.native arraycopyName ∈ wsX1_put := by decide +kernel
theorem kwX1_put_as : Cond.static arraycopyName ∈ wsX1_put := by decide +kernel
theorem kwX1_put_ay : Cond.initialized "java/lang/System" ∈ wsX1_put := by decide +kernel
set_option maxHeartbeats 4000000 in
set_option maxRecDepth 100000 in
theorem c_X1_put (l : Launch) (E : gE) (zw : va_W) {q q1 a b : Nat} {L : List Int32} {f : Nat → Int32} (he : zw[q]? = some (a, .inr (2, [.ref b, .int (nI L.length)]))) (ha : zw[q1]? = some (b, .inl (gI E, 2000, .inl f))) (hS : Sor L) (hU : UL f L) (hlen : L.length < 2000) (hqq : q ≠ q1) (v : Int32) : CtU l yX1_put wsX1_put ({ frames := 3, cells := 0, slots := 0, locals := 64 }) E [.ref a, .int v] zw (fun w1 => ∃ f1 : Nat → Int32, w1[q]? = some (a, .inr (2, [.ref b, .int (nI (ins v L).length)])) ∧ w1[q1]? = some (b, .inl (gI E, 2000, .inl f1)) ∧ UL f1 (ins v L) ∧ w1.length = zw.length ∧ (∀ j, j ≠ q → j ≠ q1 → w1[j]? = zw[j]?)) 0 0 := by
  refine Ct.of (cc := cX1_put) (nL := 4) (ret := none) (by decide) rfl (Nat.le_of_ble_eq_true rfl) ?_
  intro p e s m args below meth c C hr hnm
  refine v_eqlv (lv9 := [(0, .ref a), (1, .int v)]) rfl ?_
  refine v_aload_n C dX1_put_0 rfl rfl ?_
  refine v_iload_n C dX1_put_1 rfl rfl ?_
  refine v_callVi C (c_X1_howManyBelow l E zw he ha hS hU (by omega) _) (cwV 1 C.1.2.2.2.2 gX1_put_X1_howManyBelow rfl rfl rfl (by decide +kernel) ⟨by decide, by decide⟩) q 2 he rfl rfl rfl (Nat.le_of_ble_eq_true rfl) dX1_put_2 ⟨Nat.le_of_ble_eq_true rfl, Nat.le_of_ble_eq_true rfl⟩ (fun r w1 hp => ?_)
  obtain ⟨rfl, K, rfl, hK, h1, h2⟩ := hp
  refine v_istore_n C dX1_put_5 rfl (by decide) rfl ?_
  refine v_iload_n C dX1_put_6 rfl rfl ?_
  refine v_aload_n C dX1_put_7 rfl rfl ?_
  refine v_get C inX1_put_X1 q he rfl 1 (by decide) kwX1_put_15 rfl rfl dX1_put_8 ?_
  refine v_icmp_ge (tgt := 28) C dX1_put_11 (by decide) (fun c11 => ?_) (fun c11 => ?_)
  · have c11 : L.length ≤ K := by
      rcases Nat.lt_or_ge K L.length with z | z
      · exact absurd c11 (nI_ge z (by omega))
      · exact z
    refine v_iconst (v := 0) C dX1_put_28 (by decide) ?_
    have hlow : ∀ i (hi : i < L.length), K ≤ i → v < L[i] := fun i hi hi2 => by
      have hne : ¬ v = L[i] := fun e9 => by
        rcases Nat.lt_or_ge K i with z | z
        · have h8 := hS.get z hi
          rw [← e9] at h8
          exact h2 K (by omega) (Nat.le_refl _) h8
        · obtain rfl : i = K := by omega
          first | exact c21 e9.symm | omega
      exact lt_of_n (h2 i hi hi2) (fun e9 => hne e9.symm)
    have hv : v ∉ L := fun hm => by
      obtain ⟨i, hi, e9⟩ := List.mem_iff_getElem.mp hm
      rcases Nat.lt_or_ge i K with z | z
      · exact lt_ir v (e9 ▸ h1 i hi z)
      · exact lt_ir v (e9 ▸ hlow i hi z)
    refine v_istore_n C dX1_put_29 rfl (by decide) rfl ?_
    refine v_iload_n C dX1_put_30 rfl rfl ?_
    refine v_if_ne (tgt := 46) C dX1_put_31 (by decide) (fun c31 => absurd c31 (fun h => h rfl)) (fun c31 => ?_)
    refine v_aload_n C dX1_put_34 rfl rfl ?_
    refine v_get C inX1_put_X1 q he rfl 1 (by decide) kwX1_put_15 rfl rfl dX1_put_35 ?_
    refine v_aload_n C dX1_put_38 rfl rfl ?_
    refine v_get C inX1_put_X1 q he rfl 0 (by decide) kwX1_put_9 rfl rfl dX1_put_39 ?_
    refine v_alen C q1 0 ha rfl rfl dX1_put_42 ?_
    refine v_icmp_lt (tgt := 47) C dX1_put_43 (by decide) (fun c43 => ?_) (fun c43 => absurd (by rw [fa_lt, nI_toInt (by omega)]; show _ < (Int32.ofNat 2000).toInt; rw [show (Int32.ofNat 2000).toInt = 2000 from by decide]; omega) c43)
    refine v_at (pc9 := 47) rfl ?_
    refine v_aload_n C dX1_put_47 rfl rfl ?_
    refine v_get C inX1_put_X1 q he rfl 0 (by decide) kwX1_put_9 rfl rfl dX1_put_48 ?_
    refine v_iload_n C dX1_put_51 rfl rfl ?_
    refine v_aload_n C dX1_put_52 rfl rfl ?_
    refine v_get C inX1_put_X1 q he rfl 0 (by decide) kwX1_put_9 rfl rfl dX1_put_53 ?_
    refine v_iload_n C dX1_put_56 rfl rfl ?_
    refine v_iconst (v := 1) C dX1_put_57 (by decide) ?_
    refine v_iadd C dX1_put_58 ?_
    refine v_aload_n C dX1_put_59 rfl rfl ?_
    refine v_get C inX1_put_X1 q he rfl 1 (by decide) kwX1_put_15 rfl rfl dX1_put_60 ?_
    refine v_at (pc9 := 63) rfl ?_
    refine v_iload_n C dX1_put_63 rfl rfl ?_
    refine v_isub C dX1_put_64 ?_
    refine v_tov (y := nI (L.length - K)) (pk_sub hK) ?_
    refine v_copyi C q1 q1 kwX1_put_ac kwX1_put_an kwX1_put_as kwX1_put_ay ha ha (nI_pos (by omega)) (by rw [nI_1]; exact nI_pos (by omega)) (nI_pos (by omega)) (by rw [nI_clamp (by omega), nI_clamp (by omega)]; omega) (by rw [nI_1, nI_clamp (by omega), nI_clamp (by omega)]; omega) (by decide) (by decide) dX1_put_65 (fun zw ha hO1 => ?_)
    rw [nI_1, nI_clamp (show K < 2 ^ 31 by omega), nI_clamp (show K + 1 < 2 ^ 31 by omega), nI_clamp (show L.length - K < 2 ^ 31 by omega)] at ha
    have he : zw[q]? = some (a, .inr (2, [.ref b, .int (nI L.length)])) := (hO1.2 q hqq).trans he
    refine v_aload_n C dX1_put_68 rfl rfl ?_
    refine v_get C inX1_put_X1 q he rfl 0 (by decide) kwX1_put_9 rfl rfl dX1_put_69 ?_
    refine v_iload_n C dX1_put_72 rfl rfl ?_
    refine v_iload_n C dX1_put_73 rfl rfl ?_
    refine vo_iast C q1 ha (vp_in_nI (by omega) (by decide)) dX1_put_74 (fun zw ha hO2 => ?_)
    rw [nI_clamp (show K < 2 ^ 31 by omega)] at ha
    have he : zw[q]? = some (a, .inr (2, [.ref b, .int (nI L.length)])) := (hO2.2 q hqq).trans he
    refine v_aload_n C dX1_put_75 rfl rfl ?_
    refine v_dup C dX1_put_76 rfl ?_
    refine v_get C inX1_put_X1 q he rfl 1 (by decide) kwX1_put_15 rfl rfl dX1_put_77 ?_
    refine v_iconst (v := 1) C dX1_put_80 (by decide) ?_
    refine v_at (pc9 := 81) rfl ?_
    refine v_iadd C dX1_put_81 ?_
    refine v_tov (nI_1 _) ?_
    refine vo_put (ty := .int) C inX1_put_X1 tyX1 tyX1_ok nmX1 q he rfl 1 (by decide) kwX1_put_15 rfl rfl (by decide +kernel) rfl rfl (Nat.le_of_ble_eq_true rfl) dX1_put_82 (fun zw he hO3 => ?_)
    exact v_vret C hr dX1_put_85 (Nat.le_refl _) (Nat.le_refl _) ⟨rfl, ⟨_, by rw [ins_len hS hv]; exact he, (hO3.2 q1 (Ne.symm hqq)).trans ha, by
      rw [ins_at hS hK h1 hlow]
      exact hU.put hK (fun i hi => by rw [pk_un (by omega), pk_cpy_out (Or.inl (by omega))]) pk_us (fun i z1 z2 => by rw [pk_un (by omega), pk_cpy_in (by omega) (by omega), show K + (i - (K + 1)) = i - 1 by omega]), by rw [hO3.1, hO2.1, hO1.1], fun j hj1 hj2 => by rw [hO3.2 j hj1, hO2.2 j hj2, hO1.2 j hj2]⟩⟩
  · have c11 : K < L.length := by
      rcases Nat.lt_or_ge K L.length with z | z
      · exact z
      · exact absurd (nI_le z (by omega)) c11
    refine v_aload_n C dX1_put_14 rfl rfl ?_
    refine v_get C inX1_put_X1 q he rfl 0 (by decide) kwX1_put_9 rfl rfl dX1_put_15 ?_
    refine v_iload_n C dX1_put_18 rfl rfl ?_
    refine v_iald C q1 ha (vp_in_nI (by omega) (by decide)) dX1_put_19 ?_
    refine v_tov (y := L[K]) (by rw [nI_clamp (show K < 2 ^ 31 by omega)]; exact hU _ c11) ?_
    refine v_iload_n C dX1_put_20 rfl rfl ?_
    refine v_icmp_ne (tgt := 28) C dX1_put_21 (by decide) (fun c21 => ?_) (fun c21 => ?_)
    · refine v_iconst (v := 0) C dX1_put_28 (by decide) ?_
      have hlow : ∀ i (hi : i < L.length), K ≤ i → v < L[i] := fun i hi hi2 => by
        have hne : ¬ v = L[i] := fun e9 => by
          rcases Nat.lt_or_ge K i with z | z
          · have h8 := hS.get z hi
            rw [← e9] at h8
            exact h2 K (by omega) (Nat.le_refl _) h8
          · obtain rfl : i = K := by omega
            first | exact c21 e9.symm | omega
        exact lt_of_n (h2 i hi hi2) (fun e9 => hne e9.symm)
      have hv : v ∉ L := fun hm => by
        obtain ⟨i, hi, e9⟩ := List.mem_iff_getElem.mp hm
        rcases Nat.lt_or_ge i K with z | z
        · exact lt_ir v (e9 ▸ h1 i hi z)
        · exact lt_ir v (e9 ▸ hlow i hi z)
      refine v_istore_n C dX1_put_29 rfl (by decide) rfl ?_
      refine v_iload_n C dX1_put_30 rfl rfl ?_
      refine v_if_ne (tgt := 46) C dX1_put_31 (by decide) (fun c31 => absurd c31 (fun h => h rfl)) (fun c31 => ?_)
      refine v_aload_n C dX1_put_34 rfl rfl ?_
      refine v_get C inX1_put_X1 q he rfl 1 (by decide) kwX1_put_15 rfl rfl dX1_put_35 ?_
      refine v_aload_n C dX1_put_38 rfl rfl ?_
      refine v_get C inX1_put_X1 q he rfl 0 (by decide) kwX1_put_9 rfl rfl dX1_put_39 ?_
      refine v_alen C q1 0 ha rfl rfl dX1_put_42 ?_
      refine v_icmp_lt (tgt := 47) C dX1_put_43 (by decide) (fun c43 => ?_) (fun c43 => absurd (by rw [fa_lt, nI_toInt (by omega)]; show _ < (Int32.ofNat 2000).toInt; rw [show (Int32.ofNat 2000).toInt = 2000 from by decide]; omega) c43)
      refine v_at (pc9 := 47) rfl ?_
      refine v_aload_n C dX1_put_47 rfl rfl ?_
      refine v_get C inX1_put_X1 q he rfl 0 (by decide) kwX1_put_9 rfl rfl dX1_put_48 ?_
      refine v_iload_n C dX1_put_51 rfl rfl ?_
      refine v_aload_n C dX1_put_52 rfl rfl ?_
      refine v_get C inX1_put_X1 q he rfl 0 (by decide) kwX1_put_9 rfl rfl dX1_put_53 ?_
      refine v_iload_n C dX1_put_56 rfl rfl ?_
      refine v_iconst (v := 1) C dX1_put_57 (by decide) ?_
      refine v_iadd C dX1_put_58 ?_
      refine v_aload_n C dX1_put_59 rfl rfl ?_
      refine v_get C inX1_put_X1 q he rfl 1 (by decide) kwX1_put_15 rfl rfl dX1_put_60 ?_
      refine v_at (pc9 := 63) rfl ?_
      refine v_iload_n C dX1_put_63 rfl rfl ?_
      refine v_isub C dX1_put_64 ?_
      refine v_tov (y := nI (L.length - K)) (pk_sub hK) ?_
      refine v_copyi C q1 q1 kwX1_put_ac kwX1_put_an kwX1_put_as kwX1_put_ay ha ha (nI_pos (by omega)) (by rw [nI_1]; exact nI_pos (by omega)) (nI_pos (by omega)) (by rw [nI_clamp (by omega), nI_clamp (by omega)]; omega) (by rw [nI_1, nI_clamp (by omega), nI_clamp (by omega)]; omega) (by decide) (by decide) dX1_put_65 (fun zw ha hO1 => ?_)
      rw [nI_1, nI_clamp (show K < 2 ^ 31 by omega), nI_clamp (show K + 1 < 2 ^ 31 by omega), nI_clamp (show L.length - K < 2 ^ 31 by omega)] at ha
      have he : zw[q]? = some (a, .inr (2, [.ref b, .int (nI L.length)])) := (hO1.2 q hqq).trans he
      refine v_aload_n C dX1_put_68 rfl rfl ?_
      refine v_get C inX1_put_X1 q he rfl 0 (by decide) kwX1_put_9 rfl rfl dX1_put_69 ?_
      refine v_iload_n C dX1_put_72 rfl rfl ?_
      refine v_iload_n C dX1_put_73 rfl rfl ?_
      refine vo_iast C q1 ha (vp_in_nI (by omega) (by decide)) dX1_put_74 (fun zw ha hO2 => ?_)
      rw [nI_clamp (show K < 2 ^ 31 by omega)] at ha
      have he : zw[q]? = some (a, .inr (2, [.ref b, .int (nI L.length)])) := (hO2.2 q hqq).trans he
      refine v_aload_n C dX1_put_75 rfl rfl ?_
      refine v_dup C dX1_put_76 rfl ?_
      refine v_get C inX1_put_X1 q he rfl 1 (by decide) kwX1_put_15 rfl rfl dX1_put_77 ?_
      refine v_iconst (v := 1) C dX1_put_80 (by decide) ?_
      refine v_at (pc9 := 81) rfl ?_
      refine v_iadd C dX1_put_81 ?_
      refine v_tov (nI_1 _) ?_
      refine vo_put (ty := .int) C inX1_put_X1 tyX1 tyX1_ok nmX1 q he rfl 1 (by decide) kwX1_put_15 rfl rfl (by decide +kernel) rfl rfl (Nat.le_of_ble_eq_true rfl) dX1_put_82 (fun zw he hO3 => ?_)
      exact v_vret C hr dX1_put_85 (Nat.le_refl _) (Nat.le_refl _) ⟨rfl, ⟨_, by rw [ins_len hS hv]; exact he, (hO3.2 q1 (Ne.symm hqq)).trans ha, by
        rw [ins_at hS hK h1 hlow]
        exact hU.put hK (fun i hi => by rw [pk_un (by omega), pk_cpy_out (Or.inl (by omega))]) pk_us (fun i z1 z2 => by rw [pk_un (by omega), pk_cpy_in (by omega) (by omega), show K + (i - (K + 1)) = i - 1 by omega]), by rw [hO3.1, hO2.1, hO1.1], fun j hj1 hj2 => by rw [hO3.2 j hj1, hO2.2 j hj2, hO1.2 j hj2]⟩⟩
    · refine v_iconst (v := 1) C dX1_put_24 (by decide) ?_
      refine v_goto (tgt := 29) C dX1_put_25 (by decide) ?_
      have hv : v ∈ L := by rw [← c21]; exact List.getElem_mem _
      refine v_istore_n C dX1_put_29 rfl (by decide) rfl ?_
      refine v_iload_n C dX1_put_30 rfl rfl ?_
      refine v_if_ne (tgt := 46) C dX1_put_31 (by decide) (fun c31 => ?_) (fun c31 => absurd c31 (by decide))
      exact v_vret C hr dX1_put_46 (Nat.le_refl _) (Nat.le_refl _) ⟨rfl, ⟨f, by rw [ins_mem hS hv]; exact he, ha, by rw [ins_mem hS hv]; exact hU, rfl, fun _ _ _ => rfl⟩⟩
theorem inJx4a65c_size_8abf5_Jx4a65c : ∀ x ∈ wsJx4a65c0, x ∈ wsJx4a65c_size_8abf5 := by decide +kernel
theorem kwJx4a65c_size_8abf5_48 : Cond.fieldLink RJx4a65c 48 "java/util/ArrayList" "size" "I" ∈ wsJx4a65c_size_8abf5 := by decide +kernel
set_option maxHeartbeats 4000000 in
set_option maxRecDepth 100000 in
theorem c_Jx4a65c_size_8abf5 (l : Launch) (E : gE) (zw : va_W) {q a ea : Nat} {mo : Int32} {n : Nat} (he : zw[q]? = some (a, .inr (0, [.int mo, .ref ea, .int (nI n)]))) : CtI l yJx4a65c_size_8abf5 wsJx4a65c_size_8abf5 ({ frames := 0, cells := 0, slots := 0, locals := 0 }) E [.ref a] zw (fun r w1 => zw = w1 ∧ r = nI n) 0 0 := by
  refine Ct.of (cc := cJx4a65c_size_8abf5) (nL := 1) (ret := (some .int)) (by decide) rfl (Nat.le_of_ble_eq_true rfl) ?_
  intro p e s m args below meth c C hr hnm
  refine v_eqlv (lv9 := [(0, .ref a)]) rfl ?_
  refine v_aload_n C dJx4a65c_size_8abf5_0 rfl rfl ?_
  refine v_get C inJx4a65c_size_8abf5_Jx4a65c q he rfl 2 (by decide) kwJx4a65c_size_8abf5_48 rfl rfl dJx4a65c_size_8abf5_1 ?_
  exact v_iret C hr dJx4a65c_size_8abf5_4 (Nat.le_refl _) (Nat.le_refl _) ⟨_, rfl, ⟨rfl, rfl⟩⟩
set_option maxHeartbeats 4000000 in
set_option maxRecDepth 100000 in
theorem c_J3_checkIndex_8e157 (l : Launch) (E : gE) (zw : va_W) (i n : Int32) (h1 : ¬ i < 0) (h2 : i < n) : CtI l yJ3_checkIndex_8e157 wsJ3_checkIndex_8e157 ({ frames := 0, cells := 0, slots := 0, locals := 0 }) E [.int i, .int n, .null] zw (fun r w1 => zw = w1 ∧ r = i) 0 0 := by
  refine Ct.of (cc := cJ3_checkIndex_8e157) (nL := 3) (ret := (some .int)) (by decide) rfl (Nat.le_of_ble_eq_true rfl) ?_
  intro p e s m args below meth c C hr hnm
  refine v_eqlv (lv9 := [(0, .int i), (1, .int n), (2, .null)]) rfl ?_
  refine v_iload_n C dJ3_checkIndex_8e157_0 rfl rfl ?_
  refine v_if_lt (tgt := 9) C dJ3_checkIndex_8e157_1 (by decide) (fun c1 => absurd c1 h1) (fun c1 => ?_)
  refine v_iload_n C dJ3_checkIndex_8e157_4 rfl rfl ?_
  refine v_iload_n C dJ3_checkIndex_8e157_5 rfl rfl ?_
  refine v_icmp_lt (tgt := 16) C dJ3_checkIndex_8e157_6 (by decide) (fun c6 => ?_) (fun c6 => absurd h2 c6)
  refine v_iload_n C dJ3_checkIndex_8e157_16 rfl rfl ?_
  exact v_iret C hr dJ3_checkIndex_8e157_17 (Nat.le_refl _) (Nat.le_refl _) ⟨_, rfl, ⟨rfl, rfl⟩⟩
set_option maxHeartbeats 4000000 in
set_option maxRecDepth 100000 in
theorem c_J15_checkIndex_7cf53 (l : Launch) (E : gE) (zw : va_W) (i n : Int32) (h1 : ¬ i < 0) (h2 : i < n) : CtI l yJ15_checkIndex_7cf53 wsJ15_checkIndex_7cf53 ({ frames := 1, cells := 0, slots := 0, locals := 22 }) E [.int i, .int n] zw (fun r w1 => zw = w1 ∧ r = i) 0 0 := by
  refine Ct.of (cc := cJ15_checkIndex_7cf53) (nL := 2) (ret := (some .int)) (by decide) rfl (Nat.le_of_ble_eq_true rfl) ?_
  intro p e s m args below meth c C hr hnm
  refine v_eqlv (lv9 := [(0, .int i), (1, .int n)]) rfl ?_
  refine v_iload_n C dJ15_checkIndex_7cf53_0 rfl rfl ?_
  refine v_iload_n C dJ15_checkIndex_7cf53_1 rfl rfl ?_
  refine v_null C dJ15_checkIndex_7cf53_2 ?_
  refine v_callSi C (c_J3_checkIndex_8e157 l E zw _ _ h1 h2) (va_cwS 3 C.1.2.2.2.2 gJ15_checkIndex_7cf53_J3_checkIndex_8e157 rfl rfl rfl (by decide +kernel) ⟨by decide, by decide⟩) rfl rfl (Nat.le_of_ble_eq_true rfl) dJ15_checkIndex_7cf53_3 ⟨Nat.le_of_ble_eq_true rfl, Nat.le_of_ble_eq_true rfl⟩ (fun r w1 hp => ?_)
  obtain ⟨rfl, rfl⟩ := hp
  exact v_iret C hr dJ15_checkIndex_7cf53_6 (Nat.le_refl _) (Nat.le_refl _) ⟨_, rfl, ⟨rfl, rfl⟩⟩
theorem inJx4a65c_elementData_915e3_Jx4a65c : ∀ x ∈ wsJx4a65c0, x ∈ wsJx4a65c_elementData_915e3 := by decide +kernel
theorem kwJx4a65c_elementData_915e3_9 : Cond.fieldLink RJx4a65c 9 "java/util/ArrayList" "elementData" "[Ljava/lang/Object;" ∈ wsJx4a65c_elementData_915e3 := by decide +kernel
set_option maxHeartbeats 4000000 in
set_option maxRecDepth 100000 in
theorem c_Jx4a65c_elementData_915e3 (l : Launch) (E : gE) (zw : va_W) {q a ea : Nat} {mo : Int32} {n : Nat} (he : zw[q]? = some (a, .inr (0, [.int mo, .ref ea, .int (nI n)]))) {qe cap : Nat} {f : Nat → Option Nat} (ha : zw[qe]? = some (ea, .inl (gO E, cap, .inr (.inr (.inr (.inr f)))))) {j y : Nat} (hj : j < cap) (hcap : cap < 2 ^ 31) (hf : f j = some y) : CtA l yJx4a65c_elementData_915e3 wsJx4a65c_elementData_915e3 ({ frames := 0, cells := 0, slots := 0, locals := 0 }) E [.ref a, .int (nI j)] zw (fun r w1 => zw = w1 ∧ r = y) 0 0 := by
  refine Ct.of (cc := cJx4a65c_elementData_915e3) (nL := 2) (ret := (some (.object "java/lang/Object"))) (by decide) rfl (Nat.le_of_ble_eq_true rfl) ?_
  intro p e s m args below meth c C hr hnm
  refine v_eqlv (lv9 := [(0, .ref a), (1, .int (nI j))]) rfl ?_
  refine v_aload_n C dJx4a65c_elementData_915e3_0 rfl rfl ?_
  refine v_get C inJx4a65c_elementData_915e3_Jx4a65c q he rfl 1 (by decide) kwJx4a65c_elementData_915e3_9 rfl rfl dJx4a65c_elementData_915e3_1 ?_
  refine v_iload_n C dJx4a65c_elementData_915e3_4 rfl rfl ?_
  refine v_aald C qe ha (vp_in_nI (by omega) (by omega)) dJx4a65c_elementData_915e3_5 ?_
  rw [nI_clamp (show j < 2 ^ 31 by omega), hf]
  exact v_aret C hr (Or.inl ⟨_, rfl⟩) (Or.inr ⟨y, rfl⟩) dJx4a65c_elementData_915e3_6 (Nat.le_refl _) (Nat.le_refl _) ⟨y, rfl, rfl, rfl⟩
theorem inJx4a65c_get_915e3_Jx4a65c : ∀ x ∈ wsJx4a65c0, x ∈ wsJx4a65c_get_915e3 := by decide +kernel
theorem kwJx4a65c_get_915e3_48 : Cond.fieldLink RJx4a65c 48 "java/util/ArrayList" "size" "I" ∈ wsJx4a65c_get_915e3 := by decide +kernel
set_option maxHeartbeats 4000000 in
set_option maxRecDepth 100000 in
theorem c_Jx4a65c_get_915e3 (l : Launch) (E : gE) (zw : va_W) {q a ea : Nat} {mo : Int32} {n : Nat} (he : zw[q]? = some (a, .inr (0, [.int mo, .ref ea, .int (nI n)]))) {qe cap : Nat} {f : Nat → Option Nat} (ha : zw[qe]? = some (ea, .inl (gO E, cap, .inr (.inr (.inr (.inr f)))))) {j y : Nat} (hjn : j < n) (hnc : n ≤ cap) (hcap : cap < 2 ^ 31) (hf : f j = some y) : CtA l yJx4a65c_get_915e3 wsJx4a65c_get_915e3 ({ frames := 2, cells := 0, slots := 0, locals := 43 }) E [.ref a, .int (nI j)] zw (fun r w1 => zw = w1 ∧ r = y) 0 0 := by
  refine Ct.of (cc := cJx4a65c_get_915e3) (nL := 2) (ret := (some (.object "java/lang/Object"))) (by decide) rfl (Nat.le_of_ble_eq_true rfl) ?_
  intro p e s m args below meth c C hr hnm
  refine v_eqlv (lv9 := [(0, .ref a), (1, .int (nI j))]) rfl ?_
  refine v_iload_n C dJx4a65c_get_915e3_0 rfl rfl ?_
  refine v_aload_n C dJx4a65c_get_915e3_1 rfl rfl ?_
  refine v_get C inJx4a65c_get_915e3_Jx4a65c q he rfl 2 (by decide) kwJx4a65c_get_915e3_48 rfl rfl dJx4a65c_get_915e3_2 ?_
  refine v_callSi C (c_J15_checkIndex_7cf53 l E zw _ _ (nI_pos (by omega)) (nI_lt hjn (by omega))) (va_cwS 2 C.1.2.2.2.2 gJx4a65c_get_915e3_J15_checkIndex_7cf53 rfl rfl rfl (by decide +kernel) ⟨by decide, by decide⟩) rfl rfl (Nat.le_of_ble_eq_true rfl) dJx4a65c_get_915e3_5 ⟨Nat.le_of_ble_eq_true rfl, Nat.le_of_ble_eq_true rfl⟩ (fun r w1 hp => ?_)
  obtain ⟨rfl, rfl⟩ := hp
  refine v_pop C dJx4a65c_get_915e3_8 rfl ?_
  refine v_aload_n C dJx4a65c_get_915e3_9 rfl rfl ?_
  refine v_iload_n C dJx4a65c_get_915e3_10 rfl rfl ?_
  refine v_callVa C (c_Jx4a65c_elementData_915e3 l E zw he ha (by omega) hcap hf) (cwV 1 C.1.2.2.2.2 gJx4a65c_get_915e3_Jx4a65c_elementData_915e3 rfl rfl rfl (by decide +kernel) ⟨by decide, by decide⟩) q 0 he rfl rfl rfl (Nat.le_of_ble_eq_true rfl) dJx4a65c_get_915e3_11 ⟨Nat.le_of_ble_eq_true rfl, Nat.le_of_ble_eq_true rfl⟩ (fun r w1 hp => ?_)
  obtain ⟨rfl, rfl⟩ := hp
  exact v_aret C hr (Or.inl ⟨_, rfl⟩) (Or.inr ⟨_, rfl⟩) dJx4a65c_get_915e3_14 (Nat.le_refl _) (Nat.le_refl _) ⟨_, rfl, rfl, rfl⟩
