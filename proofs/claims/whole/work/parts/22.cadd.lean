/-- where a list keeps its cells: in the static empty row, or in a row of its own at the place qe -/
def LSt (E : gE) (zw : va_W) (ea n : Nat) (f : Nat → Option Nat) (qe : Nat) : Prop := (ea = gDe E ∧ n = 0) ∨ ∃ cap : Nat, zw[qe]? = some (ea, .inl (gO E, cap, .inr (.inr (.inr (.inr f))))) ∧ n ≤ cap ∧ 0 < cap ∧ cap ≤ 3000
theorem inJx4a65c_grow_d5877_Jx4a65c : ∀ x ∈ wsJx4a65c0, x ∈ wsJx4a65c_grow_d5877 := by decide +kernel
theorem kwJx4a65c_grow_d5877_48 : Cond.fieldLink RJx4a65c 48 "java/util/ArrayList" "size" "I" ∈ wsJx4a65c_grow_d5877 := by decide +kernel
set_option maxHeartbeats 4000000 in
set_option maxRecDepth 100000 in
theorem c_Jx4a65c_grow_d5877 (l : Launch) (E : gE) (zw : va_W) {q a ea : Nat} {mo : Int32} {n : Nat} (he : zw[q]? = some (a, .inr (0, [.int mo, .ref ea, .int (nI n)]))) {qe : Nat} {f : Nat → Option Nat} {ci : Nat} {r9 : vw_C} (hc9 : vwCl[ci]? = some r9) (hca : r9.1 ∈ gNc) (hel : ∀ i y : Nat, i < n → f i = some y → ∃ (k : Nat) (fs : List Value), zw[k]? = some (y, .inr (ci, fs))) (hL : (ea = gDe E ∧ n = 0) ∨ (zw[qe]? = some (ea, .inl (gO E, n, .inr (.inr (.inr (.inr f))))) ∧ qe ≠ q ∧ 0 < n ∧ n < 2000)) : CtA l yJx4a65c_grow_d5877 wsJx4a65c_grow_d5877 ({ frames := 4, cells := 1, slots := 3000, locals := 107 }) E [.ref a] zw (fun r w1 => w1.length = zw.length + 1 ∧ (∃ (N : Nat) (f1 : Nat → Option Nat), w1[zw.length]? = some (r, .inl (gO E, N, .inr (.inr (.inr (.inr f1))))) ∧ n < N ∧ N ≤ 3000 ∧ ∀ j, j < n → f1 j = f j) ∧ w1[q]? = some (a, .inr (0, [.int mo, .ref r, .int (nI n)])) ∧ (∀ k, k < zw.length → k ≠ q → w1[k]? = zw[k]?)) 1 3000 := by
  refine Ct.of (cc := cJx4a65c_grow_d5877) (nL := 1) (ret := (some (.array (.object "java/lang/Object")))) (by decide) rfl (Nat.le_of_ble_eq_true rfl) ?_
  intro p e s m args below meth c C hr hnm
  refine v_eqlv (lv9 := [(0, .ref a)]) rfl ?_
  refine v_aload_n C dJx4a65c_grow_d5877_0 rfl rfl ?_
  refine v_aload_n C dJx4a65c_grow_d5877_1 rfl rfl ?_
  refine v_get C inJx4a65c_grow_d5877_Jx4a65c q he rfl 2 (by decide) kwJx4a65c_grow_d5877_48 rfl rfl dJx4a65c_grow_d5877_2 ?_
  refine v_iconst (v := 1) C dJx4a65c_grow_d5877_5 (by decide) ?_
  refine v_iadd C dJx4a65c_grow_d5877_6 ?_
  refine v_tov (nI_1 n) ?_
  rcases hL with ⟨rfl, rfl⟩ | ⟨ha, hqe, hn0, hn2⟩
  · refine v_callVa C (c0_Jx4a65c_grow_92f84 l E zw he f) (cwV 1 C.1.2.2.2.2 gJx4a65c_grow_d5877_Jx4a65c_grow_92f84 rfl rfl rfl (by decide +kernel) ⟨by decide, by decide⟩) q 0 he rfl rfl rfl (Nat.le_of_ble_eq_true rfl) dJx4a65c_grow_d5877_7 ⟨by decide, by decide⟩ (fun r w1 hp => ?_)
    obtain ⟨h1, h2, h3, h4⟩ := hp
    refine v_aret C hr (Or.inr ⟨_, rfl⟩) (Or.inr ⟨_, rfl⟩) dJx4a65c_grow_d5877_10 (by decide) (by decide) ?_
    exact ⟨r, rfl, h1, h2, h3, h4⟩
  · refine v_callVa C (c_Jx4a65c_grow_92f84 l E zw he ha hqe hn0 hn2 hc9 hca hel) (cwV 1 C.1.2.2.2.2 gJx4a65c_grow_d5877_Jx4a65c_grow_92f84 rfl rfl rfl (by decide +kernel) ⟨by decide, by decide⟩) q 0 he rfl rfl rfl (Nat.le_of_ble_eq_true rfl) dJx4a65c_grow_d5877_7 ⟨by decide, by decide⟩ (fun r w1 hp => ?_)
    obtain ⟨h1, h2, h3, h4⟩ := hp
    refine v_aret C hr (Or.inr ⟨_, rfl⟩) (Or.inr ⟨_, rfl⟩) dJx4a65c_grow_d5877_10 (by decide) (by decide) ?_
    exact ⟨r, rfl, h1, h2, h3, h4⟩
theorem inJx4a65c_add_72be8_Jx4a65c : ∀ x ∈ wsJx4a65c0, x ∈ wsJx4a65c_add_72be8 := by decide +kernel
theorem kwJx4a65c_add_72be8_48 : Cond.fieldLink RJx4a65c 48 "java/util/ArrayList" "size" "I" ∈ wsJx4a65c_add_72be8 := by decide +kernel
set_option maxHeartbeats 4000000 in
set_option maxRecDepth 100000 in
theorem c_Jx4a65c_add_72be8 (l : Launch) (E : gE) (zw : va_W) {q a ea : Nat} {mo : Int32} {n : Nat} (he : zw[q]? = some (a, .inr (0, [.int mo, .ref ea, .int (nI n)]))) {qe ky y : Nat} {f : Nat → Option Nat} {vs : List Value} {ci : Nat} {r9 : vw_C} (hc9 : vwCl[ci]? = some r9) (hca : r9.1 ∈ gNc) (hel : ∀ i y : Nat, i < n → f i = some y → ∃ (k : Nat) (fs : List Value), zw[k]? = some (y, .inr (ci, fs))) (hL : LSt E zw ea n f qe) (hqe : qe ≠ q) (hn2 : n < 2000) (hv : zw[ky]? = some (y, .inr (ci, vs))) (hky : ky ≠ q) : CtU l yJx4a65c_add_72be8 wsJx4a65c_add_72be8 ({ frames := 5, cells := 1, slots := 3000, locals := 127 }) E [.ref a, .ref y, .ref ea, .int (nI n)] zw (fun w1 => ∃ (ea1 qe1 : Nat) (f1 : Nat → Option Nat), w1[q]? = some (a, .inr (0, [.int mo, .ref ea1, .int (nI (n + 1))])) ∧ LSt E w1 ea1 (n + 1) f1 qe1 ∧ (qe1 = qe ∨ qe1 = zw.length) ∧ f1 n = some y ∧ (∀ j, j < n → f1 j = f j) ∧ zw.length ≤ w1.length ∧ (∀ k, k < zw.length → k ≠ q → k ≠ qe → w1[k]? = zw[k]?)) 1 3000 := by
  refine Ct.of (cc := cJx4a65c_add_72be8) (nL := 4) (ret := none) (by decide) rfl (Nat.le_of_ble_eq_true rfl) ?_
  intro p e s m args below meth c C hr hnm
  refine v_eqlv (lv9 := [(0, .ref a), (1, .ref y), (2, .ref ea), (3, .int (nI n))]) rfl ?_
  refine v_iload_n C dJx4a65c_add_72be8_0 rfl rfl ?_
  refine v_aload_n C dJx4a65c_add_72be8_1 rfl rfl ?_
  rcases hL with ⟨rfl, rfl⟩ | ⟨cap, ha, hn1, hc0, hc1⟩
  · refine v_lenDe C dJx4a65c_add_72be8_2 ?_
    refine v_icmp_ne (tgt := 11) C dJx4a65c_add_72be8_3 (by decide) (fun c3 => absurd nI_0 c3) (fun c3 => ?_)
    refine v_aload_n C dJx4a65c_add_72be8_6 rfl rfl ?_
    refine v_callVa C (c_Jx4a65c_grow_d5877 l E zw he (qe := qe) (f := f) hc9 hca hel (Or.inl ⟨rfl, rfl⟩)) (cwV 0 C.1.2.2.2.2 gJx4a65c_add_72be8_Jx4a65c_grow_d5877 rfl rfl rfl (by decide +kernel) ⟨by decide, by decide⟩) q 0 he rfl rfl rfl (Nat.le_of_ble_eq_true rfl) dJx4a65c_add_72be8_7 ⟨by decide, by decide⟩ (fun r w1 hp => ?_)
    obtain ⟨h1, ⟨N, f1, h2, hN1, hN2, h3⟩, h4, h5⟩ := hp
    have hv1 := (h5 ky (at_lt hv) hky).trans hv
    have hqn : zw.length ≠ q := Nat.ne_of_gt (at_lt he)
    refine v_astore_n C dJx4a65c_add_72be8_10 rfl (by decide) rfl ?_
    refine v_aload_n C dJx4a65c_add_72be8_11 rfl rfl ?_
    refine v_iload_n C dJx4a65c_add_72be8_12 rfl rfl ?_
    refine v_aload_n C dJx4a65c_add_72be8_13 rfl rfl ?_
    refine v_aast C zw.length ky ci h2 hca hv1 hc9 (vp_in_nI (hN1) (by omega)) dJx4a65c_add_72be8_14 (fun w2 hr2 hO2 => ?_)
    rw [nI_clamp (show 0 < 2 ^ 31 by omega)] at hr2
    have he2 := (hO2.2 q (Ne.symm hqn)).trans h4
    refine v_aload_n C dJx4a65c_add_72be8_15 rfl rfl ?_
    refine v_iload_n C dJx4a65c_add_72be8_16 rfl rfl ?_
    refine v_iconst (v := 1) C dJx4a65c_add_72be8_17 (by decide) ?_
    refine v_iadd C dJx4a65c_add_72be8_18 ?_
    refine v_tov (nI_1 0) ?_
    refine vo_put (ty := .int) C inJx4a65c_add_72be8_Jx4a65c tyJx4a65c tyJx4a65c_ok nmJx4a65c q he2 rfl 2 (by decide) kwJx4a65c_add_72be8_48 rfl rfl (by decide +kernel) rfl rfl (Nat.le_of_ble_eq_true rfl) dJx4a65c_add_72be8_19 (fun w3 he3 hO3 => ?_)
    refine v_vret C hr dJx4a65c_add_72be8_22 (Nat.le_of_ble_eq_true rfl) (Nat.le_of_ble_eq_true rfl) ?_
    exact ⟨rfl, ⟨_, zw.length, _, he3, Or.inr ⟨N, (hO3.2 _ hqn).trans hr2, by omega, by omega, hN2⟩, Or.inr rfl, va_up_self _ _ _, fun j hj => by rw [va_up_ne _ _ (Nat.ne_of_lt hj)]; exact h3 j hj, by rw [hO3.1, hO2.1, h1]; omega, fun k9 z1 z2 z3 => by rw [hO3.2 k9 z2, hO2.2 k9 (Nat.ne_of_lt z1), h5 k9 z1 z2]⟩⟩
  · refine v_alen C qe 2 ha rfl rfl dJx4a65c_add_72be8_2 ?_
    refine v_icmp_ne (tgt := 11) C dJx4a65c_add_72be8_3 (by decide) (fun c3 => ?_) (fun c3 => ?_)
    · have hlt : n < cap := by
        rcases Nat.lt_or_ge n cap with z | z
        · exact z
        · exact absurd (show nI n = Int32.ofNat cap by rw [show n = cap by omega]; rfl) c3
      refine v_aload_n C dJx4a65c_add_72be8_11 rfl rfl ?_
      refine v_iload_n C dJx4a65c_add_72be8_12 rfl rfl ?_
      refine v_aload_n C dJx4a65c_add_72be8_13 rfl rfl ?_
      refine v_aast C qe ky ci ha hca hv hc9 (vp_in_nI (hlt) (by omega)) dJx4a65c_add_72be8_14 (fun w2 hr2 hO2 => ?_)
      rw [nI_clamp (show n < 2 ^ 31 by omega)] at hr2
      have he2 := (hO2.2 q (Ne.symm hqe)).trans he
      refine v_aload_n C dJx4a65c_add_72be8_15 rfl rfl ?_
      refine v_iload_n C dJx4a65c_add_72be8_16 rfl rfl ?_
      refine v_iconst (v := 1) C dJx4a65c_add_72be8_17 (by decide) ?_
      refine v_iadd C dJx4a65c_add_72be8_18 ?_
      refine v_tov (nI_1 n) ?_
      refine vo_put (ty := .int) C inJx4a65c_add_72be8_Jx4a65c tyJx4a65c tyJx4a65c_ok nmJx4a65c q he2 rfl 2 (by decide) kwJx4a65c_add_72be8_48 rfl rfl (by decide +kernel) rfl rfl (Nat.le_of_ble_eq_true rfl) dJx4a65c_add_72be8_19 (fun w3 he3 hO3 => ?_)
      refine v_vret C hr dJx4a65c_add_72be8_22 (Nat.le_of_ble_eq_true rfl) (Nat.le_of_ble_eq_true rfl) ?_
      exact ⟨rfl, ⟨_, qe, _, he3, Or.inr ⟨cap, (hO3.2 _ hqe).trans hr2, by omega, hc0, hc1⟩, Or.inl rfl, va_up_self _ _ _, fun j hj => va_up_ne _ _ (Nat.ne_of_lt hj), by rw [hO3.1, hO2.1]; exact Nat.le_refl _, fun k9 z1 z2 z3 => by rw [hO3.2 k9 z2, hO2.2 k9 z3]⟩⟩
    · obtain rfl : n = cap := (nI_eq (by omega) (by omega)).mp c3
      refine v_aload_n C dJx4a65c_add_72be8_6 rfl rfl ?_
      refine v_callVa C (c_Jx4a65c_grow_d5877 l E zw he (qe := qe) (f := f) hc9 hca hel (Or.inr ⟨ha, hqe, hc0, hn2⟩)) (cwV 0 C.1.2.2.2.2 gJx4a65c_add_72be8_Jx4a65c_grow_d5877 rfl rfl rfl (by decide +kernel) ⟨by decide, by decide⟩) q 0 he rfl rfl rfl (Nat.le_of_ble_eq_true rfl) dJx4a65c_add_72be8_7 ⟨by decide, by decide⟩ (fun r w1 hp => ?_)
      obtain ⟨h1, ⟨N, f1, h2, hN1, hN2, h3⟩, h4, h5⟩ := hp
      have hv1 := (h5 ky (at_lt hv) hky).trans hv
      have hqn : zw.length ≠ q := Nat.ne_of_gt (at_lt he)
      refine v_astore_n C dJx4a65c_add_72be8_10 rfl (by decide) rfl ?_
      refine v_aload_n C dJx4a65c_add_72be8_11 rfl rfl ?_
      refine v_iload_n C dJx4a65c_add_72be8_12 rfl rfl ?_
      refine v_aload_n C dJx4a65c_add_72be8_13 rfl rfl ?_
      refine v_aast C zw.length ky ci h2 hca hv1 hc9 (vp_in_nI (hN1) (by omega)) dJx4a65c_add_72be8_14 (fun w2 hr2 hO2 => ?_)
      rw [nI_clamp (show n < 2 ^ 31 by omega)] at hr2
      have he2 := (hO2.2 q (Ne.symm hqn)).trans h4
      refine v_aload_n C dJx4a65c_add_72be8_15 rfl rfl ?_
      refine v_iload_n C dJx4a65c_add_72be8_16 rfl rfl ?_
      refine v_iconst (v := 1) C dJx4a65c_add_72be8_17 (by decide) ?_
      refine v_iadd C dJx4a65c_add_72be8_18 ?_
      refine v_tov (nI_1 n) ?_
      refine vo_put (ty := .int) C inJx4a65c_add_72be8_Jx4a65c tyJx4a65c tyJx4a65c_ok nmJx4a65c q he2 rfl 2 (by decide) kwJx4a65c_add_72be8_48 rfl rfl (by decide +kernel) rfl rfl (Nat.le_of_ble_eq_true rfl) dJx4a65c_add_72be8_19 (fun w3 he3 hO3 => ?_)
      refine v_vret C hr dJx4a65c_add_72be8_22 (Nat.le_of_ble_eq_true rfl) (Nat.le_of_ble_eq_true rfl) ?_
      exact ⟨rfl, ⟨_, zw.length, _, he3, Or.inr ⟨N, (hO3.2 _ hqn).trans hr2, by omega, by omega, hN2⟩, Or.inr rfl, va_up_self _ _ _, fun j hj => by rw [va_up_ne _ _ (Nat.ne_of_lt hj)]; exact h3 j hj, by rw [hO3.1, hO2.1, h1]; omega, fun k9 z1 z2 z3 => by rw [hO3.2 k9 z2, hO2.2 k9 (Nat.ne_of_lt z1), h5 k9 z1 z2]⟩⟩
theorem inJx4a65c_add_9ea2d_Jx4a65c : ∀ x ∈ wsJx4a65c0, x ∈ wsJx4a65c_add_9ea2d := by decide +kernel
theorem kwJx4a65c_add_9ea2d_63 : Cond.fieldLink RJx4a65c 63 "java/util/ArrayList" "modCount" "I" ∈ wsJx4a65c_add_9ea2d := by decide +kernel
theorem kwJx4a65c_add_9ea2d_sfmodCount : Cond.sameField "java/util/ArrayList" "java/util/AbstractList" "modCount" "I" ∈ wsJx4a65c_add_9ea2d := by decide +kernel
theorem kwJx4a65c_add_9ea2d_9 : Cond.fieldLink RJx4a65c 9 "java/util/ArrayList" "elementData" "[Ljava/lang/Object;" ∈ wsJx4a65c_add_9ea2d := by decide +kernel
theorem kwJx4a65c_add_9ea2d_48 : Cond.fieldLink RJx4a65c 48 "java/util/ArrayList" "size" "I" ∈ wsJx4a65c_add_9ea2d := by decide +kernel
set_option maxHeartbeats 4000000 in
set_option maxRecDepth 100000 in
theorem c_Jx4a65c_add_9ea2d (l : Launch) (E : gE) (zw : va_W) {q a ea : Nat} {mo : Int32} {n : Nat} (he : zw[q]? = some (a, .inr (0, [.int mo, .ref ea, .int (nI n)]))) {qe ky y : Nat} {f : Nat → Option Nat} {vs : List Value} {ci : Nat} {r9 : vw_C} (hc9 : vwCl[ci]? = some r9) (hca : r9.1 ∈ gNc) (hel : ∀ i y : Nat, i < n → f i = some y → ∃ (k : Nat) (fs : List Value), zw[k]? = some (y, .inr (ci, fs))) (hL : LSt E zw ea n f qe) (hqe : qe ≠ q) (hn2 : n < 2000) (hv : zw[ky]? = some (y, .inr (ci, vs))) (hky : ky ≠ q) (hci0 : ci ≠ 0) : CtI l yJx4a65c_add_9ea2d wsJx4a65c_add_9ea2d ({ frames := 6, cells := 1, slots := 3000, locals := 150 }) E [.ref a, .ref y] zw (fun r w1 => ∃ (ea1 qe1 : Nat) (f1 : Nat → Option Nat), w1[q]? = some (a, .inr (0, [.int (mo + 1), .ref ea1, .int (nI (n + 1))])) ∧ LSt E w1 ea1 (n + 1) f1 qe1 ∧ (qe1 = qe ∨ qe1 = zw.length) ∧ f1 n = some y ∧ (∀ j, j < n → f1 j = f j) ∧ zw.length ≤ w1.length ∧ (∀ k, k < zw.length → k ≠ q → k ≠ qe → w1[k]? = zw[k]?)) 1 3000 := by
  refine Ct.of (cc := cJx4a65c_add_9ea2d) (nL := 2) (ret := (some .boolean)) (by decide) rfl (Nat.le_of_ble_eq_true rfl) ?_
  intro p e s m args below meth c C hr hnm
  refine v_eqlv (lv9 := [(0, .ref a), (1, .ref y)]) rfl ?_
  refine v_aload_n C dJx4a65c_add_9ea2d_0 rfl rfl ?_
  refine v_dup C dJx4a65c_add_9ea2d_1 rfl ?_
  refine v_getI C inJx4a65c_add_9ea2d_Jx4a65c q he rfl 0 (by decide) kwJx4a65c_add_9ea2d_63 kwJx4a65c_add_9ea2d_sfmodCount rfl dJx4a65c_add_9ea2d_2 ?_
  refine v_iconst (v := 1) C dJx4a65c_add_9ea2d_5 (by decide) ?_
  refine v_iadd C dJx4a65c_add_9ea2d_6 ?_
  refine vo_putI (ty := .int) C inJx4a65c_add_9ea2d_Jx4a65c tyJx4a65c tyJx4a65c_ok nmJx4a65c q he rfl 0 (by decide) kwJx4a65c_add_9ea2d_63 kwJx4a65c_add_9ea2d_sfmodCount rfl (by decide +kernel) rfl rfl (Nat.le_of_ble_eq_true rfl) dJx4a65c_add_9ea2d_7 (fun w9 he9 hO => ?_)
  have hv9 := (hO.2 ky hky).trans hv
  have hL9 : LSt E w9 ea n f qe := by
    rcases hL with h | ⟨cap, ha, h2⟩
    · exact Or.inl h
    · exact Or.inr ⟨cap, (hO.2 qe hqe).trans ha, h2⟩
  have hel9 : ∀ i y : Nat, i < n → f i = some y → ∃ (k : Nat) (fs : List Value), w9[k]? = some (y, .inr (ci, fs)) := fun i y z1 z2 => by
    obtain ⟨k9, fs, hk⟩ := hel i y z1 z2
    refine ⟨k9, fs, (hO.2 k9 (fun e9 => ?_)).trans hk⟩
    rw [e9, he] at hk
    cases hk
    exact hci0 rfl
  refine v_aload_n C dJx4a65c_add_9ea2d_10 rfl rfl ?_
  refine v_aload_n C dJx4a65c_add_9ea2d_11 rfl rfl ?_
  refine v_aload_n C dJx4a65c_add_9ea2d_12 rfl rfl ?_
  refine v_get C inJx4a65c_add_9ea2d_Jx4a65c q he9 rfl 1 (by decide) kwJx4a65c_add_9ea2d_9 rfl rfl dJx4a65c_add_9ea2d_13 ?_
  refine v_aload_n C dJx4a65c_add_9ea2d_16 rfl rfl ?_
  refine v_get C inJx4a65c_add_9ea2d_Jx4a65c q he9 rfl 2 (by decide) kwJx4a65c_add_9ea2d_48 rfl rfl dJx4a65c_add_9ea2d_17 ?_
  refine v_callVu C (c_Jx4a65c_add_72be8 l E w9 he9 hc9 hca hel9 hL9 hqe hn2 hv9 hky) (cwV 3 C.1.2.2.2.2 gJx4a65c_add_9ea2d_Jx4a65c_add_72be8 rfl rfl rfl (by decide +kernel) ⟨by decide, by decide⟩) q 0 he9 rfl rfl rfl (Nat.le_of_ble_eq_true rfl) dJx4a65c_add_9ea2d_20 ⟨by decide, by decide⟩ (fun w1 hp => ?_)
  obtain ⟨ea1, qe1, f1, k1, k2, k3, k4, k5, k6, k7⟩ := hp
  refine v_iconst (v := 1) C dJx4a65c_add_9ea2d_23 (by decide) ?_
  refine v_zret C hr dJx4a65c_add_9ea2d_24 (by decide) (by decide) (by decide) ?_
  exact ⟨_, rfl, ea1, qe1, f1, k1, k2, by rw [← hO.1]; exact k3, k4, k5, by rw [← hO.1]; exact k6, fun k9 z1 z2 z3 => by rw [k7 k9 (by rw [hO.1]; exact z1) z2 z3, hO.2 k9 z2]⟩
