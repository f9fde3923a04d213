theorem lclX5 : Cond.classLink RL 7 RX5 ∈ wsL_law := by decide +kernel
theorem linX5 : Cond.instantiable RX5 8 ∈ wsL_law := by decide +kernel
theorem liniX5 : Cond.initialized RX5 ∈ wsL_law := by decide +kernel
theorem lmlX5 : Cond.methodLink RL 9 yX5_init ∈ wsL_law := by decide +kernel
theorem limX5 : Cond.instanceMethod yX5_init ∈ wsL_law := by decide +kernel
theorem lclX6 : Cond.classLink RL 10 RX6 ∈ wsL_law := by decide +kernel
theorem linX6 : Cond.instantiable RX6 23 ∈ wsL_law := by decide +kernel
theorem liniX6 : Cond.initialized RX6 ∈ wsL_law := by decide +kernel
theorem lmlX6 : Cond.methodLink RL 12 yX6_init ∈ wsL_law := by decide +kernel
theorem limX6 : Cond.instanceMethod yX6_init ∈ wsL_law := by decide +kernel
theorem sh0 : ∀ m, m < 6 → ¬ ((0 : Int32) >>> (nI m &&& 31)) &&& 1 = 1 := by decide +kernel
theorem dg0 : ∀ v, v < 8 → dgt 0 (nI v) = 0 := by decide +kernel
theorem GI.start {f h : Nat → Int32} (hf : ∀ j, f j = if j < 48 then nI (j % 8) else 0) (hh : ∀ j, h j = if j < 6 then 16434824 else 0) : GI (fun _ => 0) (va_up (fun _ _ => 0) 2 f) 0 0 0 0 (fun _ => 0) h := by
  refine ⟨⟨⟨nI_0.symm, by decide⟩, ⟨nI_0.symm, by decide⟩, ⟨nI_0.symm, by decide⟩, ⟨nI_0.symm, by decide⟩, fun k hk => absurd hk (Nat.not_lt_zero k), fun k hk => absurd hk (Nat.not_lt_zero k), fun k hk => absurd hk (Nat.not_lt_zero k), fun k _ hk => absurd hk (Nat.not_lt_zero k), fun i hi => Or.inl rfl, fun i hi => ?_, fun i _ _ => rfl, fun k hk => absurd hk (Nat.not_lt_zero k), fun k hk => absurd hk (Nat.not_lt_zero k)⟩, ⟨fun k hk => absurd hk (Nat.not_lt_zero k), fun i _ _ => ⟨rfl, rfl, rfl⟩⟩, ⟨fun t ht => ⟨0, by decide, nI_0.symm⟩, fun t m ht hm => ⟨fun z => absurd z (sh0 m hm), fun z => absurd rfl z⟩, fun i hi => ?_, fun i v hi hv => ?_⟩, fun t k ht => absurd ht (Nat.not_lt_zero t), fun m a hm ha => ?_⟩
  · show ∃ v, v < 8 ∧ f i = nI v
    rw [hf i]
    by_cases z : i < 48
    · rw [if_pos z]
      exact ⟨i % 8, by omega, rfl⟩
    · rw [if_neg z]
      exact ⟨0, by decide, nI_0.symm⟩
  · rw [hh i]
    by_cases z : i < 6
    · rw [if_pos z]
      exact ⟨16434824, by decide, rfl⟩
    · rw [if_neg z]
      exact ⟨0, by decide, nI_0.symm⟩
  · show dgt (h i) (nI v) = f (8 * i + v)
    rw [hh i, hf]
    by_cases z : i < 6
    · rw [if_pos z, if_pos (by omega), own_d v hv, show (8 * i + v) % 8 = v by omega]
    · rw [if_neg z, if_neg (by omega), dg0 v hv]
  · show ∃ v, v < 8 ∧ f (48 * 0 + 8 * m + a) = nI v ∧ f (48 * 0 + 8 * m + v) = nI v
    refine ⟨a, ha, ?_, ?_⟩ <;> rw [hf, if_pos (by omega), show (48 * 0 + 8 * m + a) % 8 = a by omega]
theorem INV.start {E : gE} {zw : va_W} {ca ad : Nat → Nat} {f h : Nat → Int32} (hl : zw.length = 31) (hM : mAt zw (mcl E ad (fun _ => 0) (va_up (fun _ _ => 0) 2 f))) (hf : ∀ j, f j = if j < 48 then nI (j % 8) else 0) (hh : ∀ j, h j = if j < 6 then 16434824 else 0) (z0 : zw[0]? = some (ca 0, .inr (6, cfs ca 0))) (z1 : zw[1]? = some (ca 1, .inr (0, [.int 0, .ref (gDe E), .int 0]))) (z2 : zw[2]? = some (ca 2, .inr (0, [.int 0, .ref (gDe E), .int 0]))) (z3 : zw[3]? = some (ca 3, .inr (0, [.int 0, .ref (gDe E), .int 0]))) (z4 : zw[4]? = some (ca 4, .inr (5, [.ref (ca 5), .ref (ca 6)]))) (z5 : zw[5]? = some (ca 5, .inl (gI E, 200, .inl (fun _ => 0)))) (z6 : zw[6]? = some (ca 6, .inl (gI E, 1200, .inl h))) (z7 : zw[7]? = some (ca 7, .inl (gI E, 6, .inl (fun _ => 0)))) (z8 : zw[8]? = some (ca 8, .inr (2, [.ref (ca 9), .int 0]))) (z9 : zw[9]? = some (ca 9, .inl (gI E, 2000, .inl (fun _ => 0)))) (z10 : zw[10]? = some (ca 10, .inr (2, [.ref (ca 11), .int 0]))) (z11 : zw[11]? = some (ca 11, .inl (gI E, 2000, .inl (fun _ => 0)))) : INV E (ca 0) (ad 0) zw := by
  have hcl : ∀ (q ci a : Nat) (G : Nat → List Value), zw[q]? = some (a, .inr (0, [.int 0, .ref (gDe E), .int 0])) → CL E zw q ci a 0 G 0 (fun _ => 0) := fun q ci a G hz => ⟨0, gDe E, fun _ => none, by rw [nI_0]; exact hz, Or.inl ⟨rfl, rfl, rfl⟩, fun i hi => absurd hi (Nat.not_lt_zero i), fun i j hi => absurd hi (Nat.not_lt_zero i)⟩
  refine ⟨ca, ad, fun _ => 0, va_up (fun _ _ => 0) 2 f, 0, 0, 0, 0, fun _ => 0, h, fun _ => 0, fun _ _ => 0, [], [], rfl, rfl, by omega, hM, ⟨by rw [nI_0]; exact z0, z4, z5, z6, z7, hcl 1 4 _ _ z1, hcl 2 3 _ _ z2, hcl 3 1 _ _ z3⟩, ⟨fun _ => rfl, fun _ => rfl, fun _ => rfl⟩, ⟨fun _ => 0, ?_, z9, UL.nil _, List.Pairwise.nil, Nat.zero_le _⟩, ⟨fun _ => 0, ?_, z11, UL.nil _, List.Pairwise.nil, Nat.zero_le _⟩, GI.start hf hh⟩
  · show zw[8]? = some (ca 8, .inr (2, [.ref (ca 9), .int (nI 0)]))
    rw [nI_0]
    exact z8
  · show zw[10]? = some (ca 10, .inr (2, [.ref (ca 11), .int (nI 0)]))
    rw [nI_0]
    exact z10
set_option maxHeartbeats 4000000 in
set_option maxRecDepth 100000 in
theorem law_open {p : Program} {l : Launch} {e : Env} {s : State} {m : MethodId} {below : List Frame} {meth : Method} {c : Code} {E : gE} {b L : Nat} {xs : Nat → Int32} (C : gC p s m #[Value.ref b] meth c E cL_law 4 wsL_law RL) (hr : meth.sig.returnType = ret) (hB : gB E = s.heap.size) (hX : va_X b L xs s s.heap) (hbl : b < s.heap.size) (hbA : ¬ gA E b) (hL : L ≤ 2560) : V p l e room_1 s m #[Value.ref b] below meth c E 4 [] 0 0 (lw_Z below #[Value.ref b] s) 0 [(0, .ref b)] [] := by
  refine vo_new C (qn := 0) rfl 6 [.int 0, .null, .null, .null, .null, .null, .null, .null] inlX5 tyX5 tyX5_ok (lclX5) (linX5) (liniX5) rfl (fun j hj => by rcases (show j = 0 ∨ j = 1 ∨ j = 2 ∨ j = 3 ∨ j = 4 ∨ j = 5 ∨ j = 6 ∨ j = 7 by omega) with rfl | rfl | rfl | rfl | rfl | rfl | rfl | rfl <;> rfl) (Nat.le_of_ble_eq_true rfl) (Nat.le_of_ble_eq_true rfl) dL_law_0 (fun a1 zw hn1 hn2 hn3 => ?_)
  refine v_dup C dL_law_3 rfl ?_
  refine v_callIu C (c_X5_init l E zw hn1 hn2) (cwI 0 C.1.2.2.2.2 gL_law_X5_init rfl rfl rfl (C.1.2.2.2.2 _ liniX5) (C.1.2.2.2.2 _ lmlX5) (C.1.2.2.2.2 _ limX5) rfl (by decide +kernel) ⟨(Nat.le_of_ble_eq_true rfl), (Nat.le_of_ble_eq_true rfl)⟩) rfl rfl (Nat.le_of_ble_eq_true rfl) dL_law_4 ⟨(Nat.le_of_ble_eq_true rfl), (Nat.le_of_ble_eq_true rfl)⟩ (fun zw hp => ?_)
  obtain ⟨ca, h, rfl, k0, k1, k2, k3, k4, k5, k6, hh, k7, k8, k9, k10, k11, hl⟩ := hp
  clear hn1 hn2 hn3
  refine v_astore_n C dL_law_7 rfl (by decide) rfl ?_
  refine vo_new C (qn := 12) hl 7 [.int 0, .null, .null, .int 0, .null, .null, .null, .null, .null, .null, .int 0, .null, .null, .null, .null, .int 0, .null, .int 0, .null, .null, .null, .null, .null] inlX6 tyX6 tyX6_ok (lclX6) (linX6) (liniX6) rfl (fun j hj => by rcases (show j = 0 ∨ j = 1 ∨ j = 2 ∨ j = 3 ∨ j = 4 ∨ j = 5 ∨ j = 6 ∨ j = 7 ∨ j = 8 ∨ j = 9 ∨ j = 10 ∨ j = 11 ∨ j = 12 ∨ j = 13 ∨ j = 14 ∨ j = 15 ∨ j = 16 ∨ j = 17 ∨ j = 18 ∨ j = 19 ∨ j = 20 ∨ j = 21 ∨ j = 22 by omega) with rfl | rfl | rfl | rfl | rfl | rfl | rfl | rfl | rfl | rfl | rfl | rfl | rfl | rfl | rfl | rfl | rfl | rfl | rfl | rfl | rfl | rfl | rfl <;> rfl) (Nat.le_of_ble_eq_true rfl) (Nat.le_of_ble_eq_true rfl) dL_law_8 (fun b1 zw hn1 hn2 hn3 => ?_)
  refine v_dup C dL_law_11 rfl ?_
  refine v_callIu C (c_X6_init l E zw hn1 hn2) (cwI 0 C.1.2.2.2.2 gL_law_X6_init rfl rfl rfl (C.1.2.2.2.2 _ liniX6) (C.1.2.2.2.2 _ lmlX6) (C.1.2.2.2.2 _ limX6) rfl (by decide +kernel) ⟨(Nat.le_of_ble_eq_true rfl), (Nat.le_of_ble_eq_true rfl)⟩) rfl rfl (Nat.le_of_ble_eq_true rfl) dL_law_12 ⟨(Nat.le_of_ble_eq_true rfl), (Nat.le_of_ble_eq_true rfl)⟩ (fun zw hp => ?_)
  obtain ⟨ad, f, rfl, hM, hf, hl2, hw3⟩ := hp
  refine v_astore_n C dL_law_15 rfl (by decide) rfl ?_
  refine v_iconst (v := 0) C dL_law_16 (by decide) ?_
  refine v_tov (y := nI (5 * 0)) nI_0.symm ?_
  refine v_istore_n C dL_law_17 rfl (by decide) rfl ?_
  refine v_pick (lv9 := [(0, .ref b), (1, .ref (ca 0)), (2, .ref (ad 0)), (3, .int (nI (5 * 0)))]) ⟨rfl, rfl, rfl, rfl, trivial⟩ ?_
  refine v_widen (kc := 100 + 4 * 0) (ks := 30000 + 6009 * 0) (Nat.le_of_ble_eq_true rfl) (Nat.le_of_ble_eq_true rfl) ?_
  exact law_loop C hr hB hX hbl hbA hL L 0 zw (by omega) (by omega) (INV.start hl2 hM hf hh ((hw3 0 (by decide)).trans ((hn3 0 (by decide)).trans k0)) ((hw3 1 (by decide)).trans ((hn3 1 (by decide)).trans k1)) ((hw3 2 (by decide)).trans ((hn3 2 (by decide)).trans k2)) ((hw3 3 (by decide)).trans ((hn3 3 (by decide)).trans k3)) ((hw3 4 (by decide)).trans ((hn3 4 (by decide)).trans k4)) ((hw3 5 (by decide)).trans ((hn3 5 (by decide)).trans k5)) ((hw3 6 (by decide)).trans ((hn3 6 (by decide)).trans k6)) ((hw3 7 (by decide)).trans ((hn3 7 (by decide)).trans k7)) ((hw3 8 (by decide)).trans ((hn3 8 (by decide)).trans k8)) ((hw3 9 (by decide)).trans ((hn3 9 (by decide)).trans k9)) ((hw3 10 (by decide)).trans ((hn3 10 (by decide)).trans k10)) ((hw3 11 (by decide)).trans ((hn3 11 (by decide)).trans k11)))
set_option maxHeartbeats 4000000 in
set_option maxRecDepth 100000 in
/-- THE LAW, from its entry -/
theorem whole_start {p : Program} {e : Env} {s : State} {m : MethodId} {below : List Frame} {meth : Method} {c : Code} (l : Launch) {b L : Nat} {xs : Nat → Int32} (hL : L ≤ 2560) (C0 : lw_At p s m meth c b L xs) : W p l e room_1 s m #[Value.ref b] below meth c s.heap [] 0 0 (lw_Z below #[Value.ref b] s) (entryFrame m ([Value.ref b] : List Value).toArray 4) := by
  obtain ⟨hx, hb, hr, hml, hown, hts, hX, hbl, hlocks, hgv⟩ := C0
  obtain ⟨E, hB, hS⟩ := gS_start hts hgv
  have C : gC p s m #[Value.ref b] meth c E cL_law 4 wsL_law RL := ⟨⟨hx, hb, hml, hown, fun q hq => hts q (wsL_law_in q hq)⟩, hlocks, hS⟩
  have hbA : ¬ gA E b := fun h => by
    have h2 : gB E ≤ b := h
    omega
  have hl := lv_entry ([.ref b]) (n := 4) (Nat.le_of_ble_eq_true rfl)
  rw [lg_entry_eq]
  exact law_open C hr hB hX hbl hbA hL s.heap [] _ ⟨fun k q h => by simp at h, ⟨fun i j p q h => by simp at h, fun k q h => by simp at h⟩⟩ va_S.rf hl
