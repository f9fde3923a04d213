/-- the world from the place b on is the list X -/
def bAt (b : Nat) (zw X : va_W) : Prop := ∀ (k : Nat) (q : Nat × va_E), X[k]? = some q → zw[b + k]? = some q
theorem bAt.app {b : Nat} {zw w1 X : va_W} (h : bAt b zw X) (hl : zw.length = b + X.length) {x : Nat × va_E} (h1 : w1[zw.length]? = some x) (hF : ∀ k, k < zw.length → w1[k]? = zw[k]?) : bAt b w1 (X ++ [x]) := by
  intro k q hk
  rcases Nat.lt_or_ge k X.length with z | z
  · rw [List.getElem?_append_left z] at hk
    exact (hF _ (by omega)).trans (h k q hk)
  · rw [List.getElem?_append_right z] at hk
    have z2 : k - X.length = 0 := by
      rcases Nat.eq_zero_or_pos (k - X.length) with e | e
      · exact e
      · rw [List.getElem?_eq_none (show ([x] : va_W).length ≤ k - X.length from e)] at hk
        cases hk
    rw [z2] at hk
    cases hk
    rw [show b + k = zw.length by omega]
    exact h1
theorem bAt.oset {b : Nat} {zw w1 X : va_W} (h : bAt b zw X) {j : Nat} {x y : Nat × va_E} (hj : X[j]? = some y) (h1 : w1[b + j]? = some x) (hO : ∀ k, k < zw.length → k ≠ b + j → w1[k]? = zw[k]?) : bAt b w1 (X.set j x) := by
  intro k q hk
  rcases Nat.decEq k j with e | e
  · rw [List.getElem?_set_ne (Ne.symm e)] at hk
    have h9 := h k q hk
    exact (hO _ (at_lt h9) (by omega)).trans h9
  · subst e
    rw [List.getElem?_set_self (List.getElem?_eq_some_iff.mp hj).1] at hk
    cases hk
    exact h1
section VK
variable {p : Program} {l : Launch} {e : Env} {R : Room} {s : State} {m : MethodId} {args : Array Value} {below : List Frame} {meth : Method} {c : Code} {cells slots : Nat} {Q : State → Prop}
variable {cc : ByteArray} {nL : Nat} {E : gE} {zw w0 : va_W} {pc : Nat} {lv : List (Nat × Value)} {rest : List Value} {Ts : List Cond} {own : String} {b : Nat} {X : va_W}
theorem vk_newi (C : gC p s m args meth c E cc nL Ts own) (hM : bAt b zw X) (hlen : zw.length = b + X.length) (hfr : ∀ k, k < b → zw[k]? = w0[k]?) {n : Int32} (N : Nat) (harr : Cond.arrayClass .int ∈ Ts) (hn : ¬ n < 0) (hN : n.toNatClampNeg = N) (hb : N * 4 ≤ 536870912) (hcells : cells + 1 ≤ R.cells) (hslots : slots + N ≤ R.slots) (hdg : decode cc pc = .ok (.newarray .int, 2)) (kk : ∀ (q : Nat) (w1 : va_W), bAt b w1 (X ++ ([(q, .inl (gI E, N, .inl (fun _ => 0)))] : va_W)) → w1.length = b + (X ++ ([(q, .inl (gI E, N, .inl (fun _ => 0)))] : va_W)).length → (∀ k, k < b → w1[k]? = w0[k]?) → V p l e R s m args below meth c E nL w1 (cells + 1) (slots + N) Q (pc + 2) lv (.ref q :: rest)) : V p l e R s m args below meth c E nL zw cells slots Q pc lv (.int n :: rest) := vo_newi C rfl N harr hn hN hb hcells hslots hdg (fun q w1 h1 h2 h3 => kk q w1 (hM.app hlen h1 h3) (by rw [h2, hlen, List.length_append]; rfl) (fun k hk => (h3 k (by omega)).trans (hfr k hk)))
theorem vk_newz (C : gC p s m args meth c E cc nL Ts own) (hM : bAt b zw X) (hlen : zw.length = b + X.length) (hfr : ∀ k, k < b → zw[k]? = w0[k]?) {n : Int32} (N : Nat) (harr : Cond.arrayClass .boolean ∈ Ts) (hn : ¬ n < 0) (hN : n.toNatClampNeg = N) (hb : N * 1 ≤ 536870912) (hcells : cells + 1 ≤ R.cells) (hslots : slots + N ≤ R.slots) (hdg : decode cc pc = .ok (.newarray .boolean, 2)) (kk : ∀ (q : Nat) (w1 : va_W), bAt b w1 (X ++ ([(q, .inl (gZ E, N, .inl (fun _ => 0)))] : va_W)) → w1.length = b + (X ++ ([(q, .inl (gZ E, N, .inl (fun _ => 0)))] : va_W)).length → (∀ k, k < b → w1[k]? = w0[k]?) → V p l e R s m args below meth c E nL w1 (cells + 1) (slots + N) Q (pc + 2) lv (.ref q :: rest)) : V p l e R s m args below meth c E nL zw cells slots Q pc lv (.int n :: rest) := vo_newz C rfl N harr hn hN hb hcells hslots hdg (fun q w1 h1 h2 h3 => kk q w1 (hM.app hlen h1 h3) (by rw [h2, hlen, List.length_append]; rfl) (fun k hk => (h3 k (by omega)).trans (hfr k hk)))
theorem vk_new (C : gC p s m args meth c E cc nL Ts own) (hM : bAt b zw X) (hlen : zw.length = b + X.length) (hfr : ∀ k, k < b → zw[k]? = w0[k]?) {Cn : String} {T : u_T} {N index : Nat} (ci : Nat) (fs : List Value) (hin : ∀ x ∈ u_ws Cn T N, x ∈ Ts) (ty : Nat → FieldType) (hty : ∀ k, k < N → parseFieldDescriptor (T k).2.2.1 = some (ty k)) (hcl : Cond.classLink own index Cn ∈ Ts) (hinst : Cond.instantiable Cn N ∈ Ts) (hini : Cond.initialized Cn ∈ Ts) (hc : vwCl[ci]? = some (Cn, T, N)) (hfs : ∀ j, j < N → defaultValue (ty j) = vp_V fs j) (hcells : cells + 1 ≤ R.cells) (hslots : slots + N ≤ R.slots) (hdg : decode cc pc = .ok (.new index, 3)) (kk : ∀ (q : Nat) (w1 : va_W), bAt b w1 (X ++ ([(q, .inr (ci, fs))] : va_W)) → w1.length = b + (X ++ ([(q, .inr (ci, fs))] : va_W)).length → (∀ k, k < b → w1[k]? = w0[k]?) → V p l e R s m args below meth c E nL w1 (cells + 1) (slots + N) Q (pc + 3) lv (.ref q :: rest)) : V p l e R s m args below meth c E nL zw cells slots Q pc lv rest := vo_new C rfl ci fs hin ty hty hcl hinst hini hc hfs hcells hslots hdg (fun q w1 h1 h2 h3 => kk q w1 (hM.app hlen h1 h3) (by rw [h2, hlen, List.length_append]; rfl) (fun k hk => (h3 k (by omega)).trans (hfr k hk)))
theorem vk_putF (C : gC p s m args meth c E cc nL Ts own) (hM : bAt b zw X) (hlen : zw.length = b + X.length) (hfr : ∀ k, k < b → zw[k]? = w0[k]?) {ref Cn : String} {T : u_T} {N ci index a : Nat} {fs : List Value} {v : Value} {ty : FieldType} (hin : ∀ x ∈ u_ws Cn T N, x ∈ Ts) (ty0 : Nat → FieldType) (hty : ∀ k, k < N → parseFieldDescriptor (T k).2.2.1 = some (ty0 k)) (hnm : ∀ a, a < N → ∀ b, b < N → a ≠ b → (T a).2.1 ≠ (T b).2.1) (j : Nat) (ha : X[j]? = some (a, .inr (ci, fs))) (hc : vwCl[ci]? = some (Cn, T, N)) (k : Nat) (hk : k < N) (hlink : Cond.fieldLink own index ref (T k).2.1 (T k).2.2.1 ∈ Ts) (hsame : (T k).1 = ref) (hfin : (T k).2.2.2 = true) (hin2 : meth.name = "<init>") (hdecl : (T k).1 = own) (hd : parseFieldDescriptor (T k).2.2.1 = some ty) (hn : narrow ty v = v) (hfit : fits ty v = true) (hl : k < fs.length) (hdg : decode cc pc = .ok (.putfield index, 3)) (kk : ∀ (w1 : va_W), bAt b w1 (X.set j (a, .inr (ci, fs.set k v))) → w1.length = b + (X.set j (a, .inr (ci, fs.set k v))).length → (∀ k, k < b → w1[k]? = w0[k]?) → V p l e R s m args below meth c E nL w1 cells slots Q (pc + 3) lv rest) : V p l e R s m args below meth c E nL zw cells slots Q pc lv (v :: .ref a :: rest) := vo_putF C hin ty0 hty hnm (b + j) (hM j _ ha) hc k hk hlink hsame hfin hin2 hdecl hd hn hfit hl hdg (fun w1 h1 hO => kk w1 (hM.oset ha h1 (fun q _ hq => hO.2 q hq)) (by rw [hO.1, hlen, List.length_set]) (fun q hq => (hO.2 q (by omega)).trans (hfr q hq)))
end VK
theorem bAt.one {zw : va_W} {q : Nat} {x : Nat × va_E} (h : zw[q]? = some x) : bAt q zw [x] := by
  intro k y hk
  rcases Nat.eq_zero_or_pos k with e | e
  · subst e
    cases hk
    exact h
  · rw [List.getElem?_eq_none (show ([x] : va_W).length ≤ k from e)] at hk
    cases hk
theorem kwX1_init_oi : Cond.methodLink RX1 3 objectInit ∈ wsX1_init := by decide +kernel
theorem kwX1_init_ii : Cond.instanceMethod objectInit ∈ wsX1_init := by decide +kernel
theorem kwX1_init_ci : Cond.code objectInit ⟨#[0xb1]⟩ 1 none ∈ wsX1_init := by decide +kernel
theorem kwX1_init_arri : Cond.arrayClass .int ∈ wsX1_init := by decide +kernel
theorem inX1_init_X1 : ∀ x ∈ wsX10, x ∈ wsX1_init := by decide +kernel
theorem kwX1_init_9 : Cond.fieldLink RX1 9 "SeriesMarks$NameSet" "row" "[I" ∈ wsX1_init := by decide +kernel
set_option maxHeartbeats 4000000 in
set_option maxRecDepth 100000 in
theorem c_X1_init (l : Launch) (E : gE) (zw : va_W) {q a : Nat} (he : zw[q]? = some (a, .inr (2, [.null, .int 0]))) (hq : zw.length = q + 1) : CtU l yX1_init wsX1_init ({ frames := 1, cells := 1, slots := 2000, locals := 20 }) E [.ref a] zw (fun w1 => ∃ b : Nat, w1[q]? = some (a, .inr (2, [.ref b, .int 0])) ∧ w1[q + 1]? = some (b, .inl (gI E, 2000, .inl (fun _ => 0))) ∧ w1.length = q + 2 ∧ ∀ k, k < q → w1[k]? = zw[k]?) 1 2000 := by
  refine Ct.of (cc := cX1_init) (nL := 1) (ret := none) (by decide) rfl (Nat.le_of_ble_eq_true rfl) ?_
  intro p e s m args below meth c C hr hnm
  refine v_eqlv (lv9 := [(0, .ref a)]) rfl ?_
  have hM := bAt.one he
  have hlen : zw.length = q + 1 := hq
  have hfr : ∀ k, k < q → zw[k]? = zw[k]? := fun _ _ => rfl
  refine v_aload_n C dX1_init_0 rfl rfl ?_
  refine v_objInit C kwX1_init_oi kwX1_init_ii kwX1_init_ci dX1_init_1 (by decide) (by decide) ?_
  refine v_aload_n C dX1_init_4 rfl rfl ?_
  refine v_sipush (v := 2000) C dX1_init_5 (by decide) ?_
  refine vk_newi C hM hlen hfr 2000 kwX1_init_arri (by decide) (by decide) (by decide) (Nat.le_of_ble_eq_true rfl) (Nat.le_of_ble_eq_true rfl) dX1_init_8 (fun q1 zw hM hlen hfr => ?_)
  have hM : bAt q zw [(a, .inr (2, [.null, .int 0])), (q1, .inl (gI E, 2000, .inl (fun _ => 0)))] := hM
  refine vk_putF (ty := .array .int) C hM hlen hfr inX1_init_X1 tyX1 tyX1_ok nmX1 0 rfl rfl 0 (by decide) kwX1_init_9 rfl rfl hnm rfl (by decide +kernel) rfl rfl (Nat.le_of_ble_eq_true rfl) dX1_init_10 (fun zw hM hlen hfr => ?_)
  have hM : bAt q zw [(a, .inr (2, [.ref q1, .int 0])), (q1, .inl (gI E, 2000, .inl (fun _ => 0)))] := hM
  refine v_vret C hr dX1_init_13 (Nat.le_of_ble_eq_true rfl) (Nat.le_of_ble_eq_true rfl) ?_
  exact ⟨rfl, q1, hM 0 _ rfl, hM 1 _ rfl, hlen, hfr⟩
theorem inX4_init_X4 : ∀ x ∈ wsX40, x ∈ wsX4_init := by decide +kernel
theorem kwX4_init_15 : Cond.fieldLink RX4 15 "SeriesMarks$Shortening" "chiefsAt" "[I" ∈ wsX4_init := by decide +kernel
theorem kwX4_init_c18 : Cond.constant RX4 18 (16434824) ∈ wsX4_init := by decide +kernel
set_option maxHeartbeats 4000000 in
set_option maxRecDepth 100000 in
theorem lp_X4_init {p : Program} {l : Launch} {e : Env} {s : State} {m : MethodId} {args : Array Value} {below : List Frame} {meth : Method} {c : Code} {Q : State → Prop} {E : gE} {w0 : va_W} (C : gC p s m args meth c E cX4_init 2 wsX4_init yX4_init.cls) {q a b5 b6 : Nat} (he0 : w0[q]? = some (a, .inr (5, [.ref b5, .ref b6]))) (hK : ∀ (zw : va_W) (f : Nat → Int32), oFr (q + 2) w0 zw → zw[q + 2]? = some (b6, .inl (gI E, 1200, .inl f)) → (∀ j, f j = if j < 6 then 16434824 else 0) → V p l e ({ frames := 1, cells := 2, slots := 1400, locals := 20 }) s m args below meth c E 2 zw 2 1400 Q 44 [(0, .ref a), (1, .int (nI 6))] []) : ∀ n i : Nat, i + n = 6 → ∀ (zw : va_W) (f : Nat → Int32), oFr (q + 2) w0 zw → zw[q + 2]? = some (b6, .inl (gI E, 1200, .inl f)) → (∀ j, f j = if j < i then 16434824 else 0) → V p l e ({ frames := 1, cells := 2, slots := 1400, locals := 20 }) s m args below meth c E 2 zw 2 1400 Q 24 [(0, .ref a), (1, .int (nI i))] [] := by
  intro n
  induction n with
  | zero =>
    intro i hi zw f hO ha hf
    obtain rfl : i = 6 := by omega
    refine v_iload_n C dX4_init_24 rfl rfl ?_
    refine v_bipush (v := 6) C dX4_init_25 (by decide) ?_
    refine v_icmp_ge (tgt := 44) C dX4_init_27 (by decide) (fun c27 => ?_) (fun c27 => absurd (by rw [fa_le, ti_6, nI_toInt (by omega)]; omega) c27)
    exact hK zw f hO ha hf
  | succ n ih =>
    intro i hi zw f hO ha hf
    have he := (hO.2 q (by omega)).trans he0
    refine v_iload_n C dX4_init_24 rfl rfl ?_
    refine v_bipush (v := 6) C dX4_init_25 (by decide) ?_
    refine v_icmp_ge (tgt := 44) C dX4_init_27 (by decide) (fun c27 => absurd c27 (by rw [fa_le, ti_6, nI_toInt (by omega)]; omega)) (fun c27 => ?_)
    refine v_aload_n C dX4_init_30 rfl rfl ?_
    refine v_get (v := .ref b6) C inX4_init_X4 q he rfl 1 (by decide) kwX4_init_15 rfl rfl dX4_init_31 ?_
    refine v_iload_n C dX4_init_34 rfl rfl ?_
    refine v_ldc C kwX4_init_c18 dX4_init_35 ?_
    refine vo_iast C (q + 2) ha (vp_in_nI (by omega) (by decide)) dX4_init_37 (fun zw ha hO1 => ?_)
    rw [nI_clamp (show i < 2 ^ 31 by omega)] at ha
    refine v_iincN C dX4_init_38 rfl (by decide) rfl ?_
    refine v_at (pc9 := 41) rfl ?_
    refine v_goto (tgt := 24) C dX4_init_41 (by decide) ?_
    refine ih (i + 1) (by omega) zw _ (hO.tr hO1) ha (fun j => ?_)
    rcases Nat.lt_trichotomy j i with z | z | z
    · rw [pk_un (Nat.ne_of_lt z), hf j, if_pos z, if_pos (by omega)]
    · subst z
      rw [pk_us, if_pos (by omega)]
    · rw [pk_un (Nat.ne_of_gt z), hf j, if_neg (by omega), if_neg (by omega)]
theorem kwX4_init_oi : Cond.methodLink RX4 3 objectInit ∈ wsX4_init := by decide +kernel
theorem kwX4_init_ii : Cond.instanceMethod objectInit ∈ wsX4_init := by decide +kernel
theorem kwX4_init_ci : Cond.code objectInit ⟨#[0xb1]⟩ 1 none ∈ wsX4_init := by decide +kernel
theorem kwX4_init_arri : Cond.arrayClass .int ∈ wsX4_init := by decide +kernel
theorem kwX4_init_9 : Cond.fieldLink RX4 9 "SeriesMarks$Shortening" "droppedAt" "[I" ∈ wsX4_init := by decide +kernel
set_option maxHeartbeats 4000000 in
set_option maxRecDepth 100000 in
theorem c_X4_init (l : Launch) (E : gE) (zw : va_W) {q a : Nat} (he : zw[q]? = some (a, .inr (5, [.null, .null]))) (hq : zw.length = q + 1) : CtU l yX4_init wsX4_init ({ frames := 1, cells := 2, slots := 1400, locals := 20 }) E [.ref a] zw (fun w1 => ∃ (b5 b6 : Nat) (f : Nat → Int32), w1[q]? = some (a, .inr (5, [.ref b5, .ref b6])) ∧ w1[q + 1]? = some (b5, .inl (gI E, 200, .inl (fun _ => 0))) ∧ w1[q + 2]? = some (b6, .inl (gI E, 1200, .inl f)) ∧ (∀ j, f j = if j < 6 then 16434824 else 0) ∧ w1.length = q + 3 ∧ ∀ k, k < q → w1[k]? = zw[k]?) 2 1400 := by
  refine Ct.of (cc := cX4_init) (nL := 2) (ret := none) (by decide) rfl (Nat.le_of_ble_eq_true rfl) ?_
  intro p e s m args below meth c C hr hnm
  refine v_eqlv (lv9 := [(0, .ref a)]) rfl ?_
  have hM := bAt.one he
  have hlen : zw.length = q + 1 := hq
  have hfr : ∀ k, k < q → zw[k]? = zw[k]? := fun _ _ => rfl
  refine v_aload_n C dX4_init_0 rfl rfl ?_
  refine v_objInit C kwX4_init_oi kwX4_init_ii kwX4_init_ci dX4_init_1 (by decide) (by decide) ?_
  refine v_aload_n C dX4_init_4 rfl rfl ?_
  refine v_sipush (v := 200) C dX4_init_5 (by decide) ?_
  refine vk_newi C hM hlen hfr 200 kwX4_init_arri (by decide) (by decide) (by decide) (Nat.le_of_ble_eq_true rfl) (Nat.le_of_ble_eq_true rfl) dX4_init_8 (fun b5 zw hM hlen hfr => ?_)
  have hM : bAt q zw [(a, .inr (5, [.null, .null])), (b5, .inl (gI E, 200, .inl (fun _ => 0)))] := hM
  refine vk_putF (ty := .array .int) C hM hlen hfr inX4_init_X4 tyX4 tyX4_ok nmX4 0 rfl rfl 0 (by decide) kwX4_init_9 rfl rfl hnm rfl (by decide +kernel) rfl rfl (Nat.le_of_ble_eq_true rfl) dX4_init_10 (fun zw hM hlen hfr => ?_)
  have hM : bAt q zw [(a, .inr (5, [.ref b5, .null])), (b5, .inl (gI E, 200, .inl (fun _ => 0)))] := hM
  refine v_aload_n C dX4_init_13 rfl rfl ?_
  refine v_sipush (v := 1200) C dX4_init_14 (by decide) ?_
  refine vk_newi C hM hlen hfr 1200 kwX4_init_arri (by decide) (by decide) (by decide) (Nat.le_of_ble_eq_true rfl) (Nat.le_of_ble_eq_true rfl) dX4_init_17 (fun b6 zw hM hlen hfr => ?_)
  have hM : bAt q zw [(a, .inr (5, [.ref b5, .null])), (b5, .inl (gI E, 200, .inl (fun _ => 0))), (b6, .inl (gI E, 1200, .inl (fun _ => 0)))] := hM
  refine vk_putF (ty := .array .int) C hM hlen hfr inX4_init_X4 tyX4 tyX4_ok nmX4 0 rfl rfl 1 (by decide) kwX4_init_15 rfl rfl hnm rfl (by decide +kernel) rfl rfl (Nat.le_of_ble_eq_true rfl) dX4_init_19 (fun zw hM hlen hfr => ?_)
  have hM : bAt q zw [(a, .inr (5, [.ref b5, .ref b6])), (b5, .inl (gI E, 200, .inl (fun _ => 0))), (b6, .inl (gI E, 1200, .inl (fun _ => 0)))] := hM
  refine v_iconst (v := 0) C dX4_init_22 (by decide) ?_
  refine v_tov nI_0.symm ?_
  refine v_istore_n C dX4_init_23 rfl (by decide) rfl ?_
  refine v_eqlv (lv9 := [(0, .ref a), (1, .int (nI 0))]) rfl ?_
  refine lp_X4_init C (hM 0 _ rfl) ?_ 6 0 rfl zw _ ⟨rfl, fun _ _ => rfl⟩ (hM 2 _ rfl) (fun j => (if_neg (Nat.not_lt_zero j)).symm)
  intro zw f hO ha hf
  refine v_vret C hr dX4_init_44 (Nat.le_of_ble_eq_true rfl) (Nat.le_of_ble_eq_true rfl) ?_
  exact ⟨rfl, b5, b6, f, (hO.2 q (by omega)).trans (hM 0 _ rfl), (hO.2 (q + 1) (by omega)).trans (hM 1 _ rfl), ha, hf, hO.1.trans hlen, fun k hk => (hO.2 k (by omega)).trans (hfr k hk)⟩
theorem kwX5_init_oi : Cond.methodLink RX5 1 objectInit ∈ wsX5_init := by decide +kernel
theorem kwX5_init_ii : Cond.instanceMethod objectInit ∈ wsX5_init := by decide +kernel
theorem kwX5_init_ci : Cond.code objectInit ⟨#[0xb1]⟩ 1 none ∈ wsX5_init := by decide +kernel
theorem inX5_init_Jx4a65c : ∀ x ∈ wsJx4a65c0, x ∈ wsX5_init := by decide +kernel
theorem kwX5_init_cl7 : Cond.classLink RX5 7 RJx4a65c ∈ wsX5_init := by decide +kernel
theorem kwX5_init_insJx4a65c : Cond.instantiable RJx4a65c 3 ∈ wsX5_init := by decide +kernel
theorem kwX5_init_iniJx4a65c : Cond.initialized RJx4a65c ∈ wsX5_init := by decide +kernel
theorem kwX5_init_ml9 : Cond.methodLink RX5 9 yJx4a65c_init_da8c8 ∈ wsX5_init := by decide +kernel
theorem kwX5_init_imJx4a65c_init_da8c8 : Cond.instanceMethod yJx4a65c_init_da8c8 ∈ wsX5_init := by decide +kernel
theorem inX5_init_X5 : ∀ x ∈ wsX50, x ∈ wsX5_init := by decide +kernel
theorem kwX5_init_10 : Cond.fieldLink RX5 10 "SeriesMarks" "allSeries" "Ljava/util/ArrayList;" ∈ wsX5_init := by decide +kernel
theorem kwX5_init_16 : Cond.fieldLink RX5 16 "SeriesMarks" "samples" "Ljava/util/ArrayList;" ∈ wsX5_init := by decide +kernel
theorem kwX5_init_19 : Cond.fieldLink RX5 19 "SeriesMarks" "askings" "Ljava/util/ArrayList;" ∈ wsX5_init := by decide +kernel
theorem inX5_init_X4 : ∀ x ∈ wsX40, x ∈ wsX5_init := by decide +kernel
theorem kwX5_init_cl22 : Cond.classLink RX5 22 RX4 ∈ wsX5_init := by decide +kernel
theorem kwX5_init_insX4 : Cond.instantiable RX4 2 ∈ wsX5_init := by decide +kernel
theorem kwX5_init_iniX4 : Cond.initialized RX4 ∈ wsX5_init := by decide +kernel
theorem kwX5_init_ml24 : Cond.methodLink RX5 24 yX4_init ∈ wsX5_init := by decide +kernel
theorem kwX5_init_imX4_init : Cond.instanceMethod yX4_init ∈ wsX5_init := by decide +kernel
theorem kwX5_init_25 : Cond.fieldLink RX5 25 "SeriesMarks" "shortening" "LSeriesMarks$Shortening;" ∈ wsX5_init := by decide +kernel
theorem kwX5_init_arri : Cond.arrayClass .int ∈ wsX5_init := by decide +kernel
theorem kwX5_init_29 : Cond.fieldLink RX5 29 "SeriesMarks" "weights" "[I" ∈ wsX5_init := by decide +kernel
theorem kwX5_init_iniX1 : Cond.initialized RX1 ∈ wsX5_init := by decide +kernel
theorem kwX5_init_imX1_init : Cond.instanceMethod yX1_init ∈ wsX5_init := by decide +kernel
theorem inX5_init_X1 : ∀ x ∈ wsX10, x ∈ wsX5_init := by decide +kernel
theorem kwX5_init_cl33 : Cond.classLink RX5 33 RX1 ∈ wsX5_init := by decide +kernel
theorem kwX5_init_insX1 : Cond.instantiable RX1 2 ∈ wsX5_init := by decide +kernel
theorem kwX5_init_36 : Cond.fieldLink RX5 36 "SeriesMarks" "seenNames" "LSeriesMarks$NameSet;" ∈ wsX5_init := by decide +kernel
theorem kwX5_init_40 : Cond.fieldLink RX5 40 "SeriesMarks" "workNames" "LSeriesMarks$NameSet;" ∈ wsX5_init := by decide +kernel
set_option maxHeartbeats 4000000 in
set_option maxRecDepth 100000 in
theorem c_X5_init (l : Launch) (E : gE) (zw : va_W) {a : Nat} (he : zw[0]? = some (a, .inr (6, [.int 0, .null, .null, .null, .null, .null, .null, .null]))) (hq : zw.length = 1) : CtU l yX5_init wsX5_init ({ frames := 4, cells := 11, slots := 5421, locals := 80 }) E [.ref a] zw (fun w1 => ∃ (ca : Nat → Nat) (f : Nat → Int32), ca 0 = a ∧ w1[0]? = some (ca 0, .inr (6, cfs ca 0)) ∧ w1[1]? = some (ca 1, .inr (0, [.int 0, .ref (gDe E), .int 0])) ∧ w1[2]? = some (ca 2, .inr (0, [.int 0, .ref (gDe E), .int 0])) ∧ w1[3]? = some (ca 3, .inr (0, [.int 0, .ref (gDe E), .int 0])) ∧ w1[4]? = some (ca 4, .inr (5, [.ref (ca 5), .ref (ca 6)])) ∧ w1[5]? = some (ca 5, .inl (gI E, 200, .inl (fun _ => 0))) ∧ w1[6]? = some (ca 6, .inl (gI E, 1200, .inl f)) ∧ (∀ j, f j = if j < 6 then 16434824 else 0) ∧ w1[7]? = some (ca 7, .inl (gI E, 6, .inl (fun _ => 0))) ∧ w1[8]? = some (ca 8, .inr (2, [.ref (ca 9), .int 0])) ∧ w1[9]? = some (ca 9, .inl (gI E, 2000, .inl (fun _ => 0))) ∧ w1[10]? = some (ca 10, .inr (2, [.ref (ca 11), .int 0])) ∧ w1[11]? = some (ca 11, .inl (gI E, 2000, .inl (fun _ => 0))) ∧ w1.length = 12) 11 5421 := by
  refine Ct.of (cc := cX5_init) (nL := 1) (ret := none) (by decide) rfl (Nat.le_of_ble_eq_true rfl) ?_
  intro p e s m args below meth c C hr hnm
  refine v_eqlv (lv9 := [(0, .ref a)]) rfl ?_
  have hM := bAt.one he
  have hlen : zw.length = 0 + 1 := hq
  have hfr : ∀ k, k < 0 → zw[k]? = zw[k]? := fun _ _ => rfl
  refine v_aload_n C dX5_init_0 rfl rfl ?_
  refine v_objInit C kwX5_init_oi kwX5_init_ii kwX5_init_ci dX5_init_1 (by decide) (by decide) ?_
  refine v_aload_n C dX5_init_4 rfl rfl ?_
  refine vk_new C hM hlen hfr 0 [.int 0, .null, .int 0] inX5_init_Jx4a65c tyJx4a65c tyJx4a65c_ok kwX5_init_cl7 kwX5_init_insJx4a65c kwX5_init_iniJx4a65c rfl (fun j hj => by rcases (show j = 0 ∨ j = 1 ∨ j = 2 by omega) with rfl | rfl | rfl <;> rfl) (Nat.le_of_ble_eq_true rfl) (Nat.le_of_ble_eq_true rfl) dX5_init_5 (fun q1 zw hM hlen hfr => ?_)
  have hM : bAt 0 zw [(a, .inr (6, [.int 0, .null, .null, .null, .null, .null, .null, .null])), (q1, .inr (0, [.int 0, .null, .int 0]))] := hM
  refine v_dup C dX5_init_8 rfl ?_
  refine v_callIu C (c_Jx4a65c_init_da8c8 l E zw (hM 1 _ rfl)) (cwI 0 C.1.2.2.2.2 gX5_init_Jx4a65c_init_da8c8 rfl rfl rfl (C.1.2.2.2.2 _ kwX5_init_iniJx4a65c) (C.1.2.2.2.2 _ kwX5_init_ml9) (C.1.2.2.2.2 _ kwX5_init_imJx4a65c_init_da8c8) rfl (by decide +kernel) ⟨by decide, by decide⟩) rfl rfl (Nat.le_of_ble_eq_true rfl) dX5_init_9 ⟨(Nat.le_of_ble_eq_true rfl), (Nat.le_of_ble_eq_true rfl)⟩ (fun w2 hp => ?_)
  obtain ⟨g1, hO⟩ := hp
  have hM := hM.oset (j := 1) rfl g1 (fun k _ hk => hO.2 k hk)
  have hlen := hO.1.trans hlen
  have hfr : ∀ k, k < 0 → w2[k]? = w2[k]? := fun _ _ => rfl
  generalize w2 = zw at hM hlen hfr ⊢
  have hM : bAt 0 zw [(a, .inr (6, [.int 0, .null, .null, .null, .null, .null, .null, .null])), (q1, .inr (0, [.int 0, .ref (gDe E), .int 0]))] := hM
  refine vk_putF (ty := .object "java/util/ArrayList") C hM hlen hfr inX5_init_X5 tyX5 tyX5_ok nmX5 0 rfl rfl 1 (by decide) kwX5_init_10 rfl rfl hnm rfl (by decide +kernel) rfl rfl (Nat.le_of_ble_eq_true rfl) dX5_init_12 (fun zw hM hlen hfr => ?_)
  have hM : bAt 0 zw [(a, .inr (6, [.int 0, .ref q1, .null, .null, .null, .null, .null, .null])), (q1, .inr (0, [.int 0, .ref (gDe E), .int 0]))] := hM
  refine v_aload_n C dX5_init_15 rfl rfl ?_
  refine vk_new C hM hlen hfr 0 [.int 0, .null, .int 0] inX5_init_Jx4a65c tyJx4a65c tyJx4a65c_ok kwX5_init_cl7 kwX5_init_insJx4a65c kwX5_init_iniJx4a65c rfl (fun j hj => by rcases (show j = 0 ∨ j = 1 ∨ j = 2 by omega) with rfl | rfl | rfl <;> rfl) (Nat.le_of_ble_eq_true rfl) (Nat.le_of_ble_eq_true rfl) dX5_init_16 (fun q2 zw hM hlen hfr => ?_)
  have hM : bAt 0 zw [(a, .inr (6, [.int 0, .ref q1, .null, .null, .null, .null, .null, .null])), (q1, .inr (0, [.int 0, .ref (gDe E), .int 0])), (q2, .inr (0, [.int 0, .null, .int 0]))] := hM
  refine v_dup C dX5_init_19 rfl ?_
  refine v_callIu C (c_Jx4a65c_init_da8c8 l E zw (hM 2 _ rfl)) (cwI 0 C.1.2.2.2.2 gX5_init_Jx4a65c_init_da8c8 rfl rfl rfl (C.1.2.2.2.2 _ kwX5_init_iniJx4a65c) (C.1.2.2.2.2 _ kwX5_init_ml9) (C.1.2.2.2.2 _ kwX5_init_imJx4a65c_init_da8c8) rfl (by decide +kernel) ⟨by decide, by decide⟩) rfl rfl (Nat.le_of_ble_eq_true rfl) dX5_init_20 ⟨(Nat.le_of_ble_eq_true rfl), (Nat.le_of_ble_eq_true rfl)⟩ (fun w2 hp => ?_)
  obtain ⟨g1, hO⟩ := hp
  have hM := hM.oset (j := 2) rfl g1 (fun k _ hk => hO.2 k hk)
  have hlen := hO.1.trans hlen
  have hfr : ∀ k, k < 0 → w2[k]? = w2[k]? := fun _ _ => rfl
  generalize w2 = zw at hM hlen hfr ⊢
  have hM : bAt 0 zw [(a, .inr (6, [.int 0, .ref q1, .null, .null, .null, .null, .null, .null])), (q1, .inr (0, [.int 0, .ref (gDe E), .int 0])), (q2, .inr (0, [.int 0, .ref (gDe E), .int 0]))] := hM
  refine vk_putF (ty := .object "java/util/ArrayList") C hM hlen hfr inX5_init_X5 tyX5 tyX5_ok nmX5 0 rfl rfl 2 (by decide) kwX5_init_16 rfl rfl hnm rfl (by decide +kernel) rfl rfl (Nat.le_of_ble_eq_true rfl) dX5_init_23 (fun zw hM hlen hfr => ?_)
  have hM : bAt 0 zw [(a, .inr (6, [.int 0, .ref q1, .ref q2, .null, .null, .null, .null, .null])), (q1, .inr (0, [.int 0, .ref (gDe E), .int 0])), (q2, .inr (0, [.int 0, .ref (gDe E), .int 0]))] := hM
  refine v_aload_n C dX5_init_26 rfl rfl ?_
  refine vk_new C hM hlen hfr 0 [.int 0, .null, .int 0] inX5_init_Jx4a65c tyJx4a65c tyJx4a65c_ok kwX5_init_cl7 kwX5_init_insJx4a65c kwX5_init_iniJx4a65c rfl (fun j hj => by rcases (show j = 0 ∨ j = 1 ∨ j = 2 by omega) with rfl | rfl | rfl <;> rfl) (Nat.le_of_ble_eq_true rfl) (Nat.le_of_ble_eq_true rfl) dX5_init_27 (fun q3 zw hM hlen hfr => ?_)
  have hM : bAt 0 zw [(a, .inr (6, [.int 0, .ref q1, .ref q2, .null, .null, .null, .null, .null])), (q1, .inr (0, [.int 0, .ref (gDe E), .int 0])), (q2, .inr (0, [.int 0, .ref (gDe E), .int 0])), (q3, .inr (0, [.int 0, .null, .int 0]))] := hM
  refine v_dup C dX5_init_30 rfl ?_
  refine v_callIu C (c_Jx4a65c_init_da8c8 l E zw (hM 3 _ rfl)) (cwI 0 C.1.2.2.2.2 gX5_init_Jx4a65c_init_da8c8 rfl rfl rfl (C.1.2.2.2.2 _ kwX5_init_iniJx4a65c) (C.1.2.2.2.2 _ kwX5_init_ml9) (C.1.2.2.2.2 _ kwX5_init_imJx4a65c_init_da8c8) rfl (by decide +kernel) ⟨by decide, by decide⟩) rfl rfl (Nat.le_of_ble_eq_true rfl) dX5_init_31 ⟨(Nat.le_of_ble_eq_true rfl), (Nat.le_of_ble_eq_true rfl)⟩ (fun w2 hp => ?_)
  obtain ⟨g1, hO⟩ := hp
  have hM := hM.oset (j := 3) rfl g1 (fun k _ hk => hO.2 k hk)
  have hlen := hO.1.trans hlen
  have hfr : ∀ k, k < 0 → w2[k]? = w2[k]? := fun _ _ => rfl
  generalize w2 = zw at hM hlen hfr ⊢
  have hM : bAt 0 zw [(a, .inr (6, [.int 0, .ref q1, .ref q2, .null, .null, .null, .null, .null])), (q1, .inr (0, [.int 0, .ref (gDe E), .int 0])), (q2, .inr (0, [.int 0, .ref (gDe E), .int 0])), (q3, .inr (0, [.int 0, .ref (gDe E), .int 0]))] := hM
  refine vk_putF (ty := .object "java/util/ArrayList") C hM hlen hfr inX5_init_X5 tyX5 tyX5_ok nmX5 0 rfl rfl 3 (by decide) kwX5_init_19 rfl rfl hnm rfl (by decide +kernel) rfl rfl (Nat.le_of_ble_eq_true rfl) dX5_init_34 (fun zw hM hlen hfr => ?_)
  have hM : bAt 0 zw [(a, .inr (6, [.int 0, .ref q1, .ref q2, .ref q3, .null, .null, .null, .null])), (q1, .inr (0, [.int 0, .ref (gDe E), .int 0])), (q2, .inr (0, [.int 0, .ref (gDe E), .int 0])), (q3, .inr (0, [.int 0, .ref (gDe E), .int 0]))] := hM
  refine v_aload_n C dX5_init_37 rfl rfl ?_
  refine vk_new C hM hlen hfr 5 [.null, .null] inX5_init_X4 tyX4 tyX4_ok kwX5_init_cl22 kwX5_init_insX4 kwX5_init_iniX4 rfl (fun j hj => by rcases (show j = 0 ∨ j = 1 by omega) with rfl | rfl <;> rfl) (Nat.le_of_ble_eq_true rfl) (Nat.le_of_ble_eq_true rfl) dX5_init_38 (fun q4 zw hM hlen hfr => ?_)
  have hM : bAt 0 zw [(a, .inr (6, [.int 0, .ref q1, .ref q2, .ref q3, .null, .null, .null, .null])), (q1, .inr (0, [.int 0, .ref (gDe E), .int 0])), (q2, .inr (0, [.int 0, .ref (gDe E), .int 0])), (q3, .inr (0, [.int 0, .ref (gDe E), .int 0])), (q4, .inr (5, [.null, .null]))] := hM
  refine v_dup C dX5_init_41 rfl ?_
  refine v_callIu C (c_X4_init l E zw (hM 4 _ rfl) hlen) (cwI 0 C.1.2.2.2.2 gX5_init_X4_init rfl rfl rfl (C.1.2.2.2.2 _ kwX5_init_iniX4) (C.1.2.2.2.2 _ kwX5_init_ml24) (C.1.2.2.2.2 _ kwX5_init_imX4_init) rfl (by decide +kernel) ⟨by decide, by decide⟩) rfl rfl (Nat.le_of_ble_eq_true rfl) dX5_init_42 ⟨(Nat.le_of_ble_eq_true rfl), (Nat.le_of_ble_eq_true rfl)⟩ (fun w2 hp => ?_)
  obtain ⟨q5, q6, f6, g1, g2, g3, hf6, g4, g5⟩ := hp
  have hM : bAt 0 w2 [(a, .inr (6, [.int 0, .ref q1, .ref q2, .ref q3, .null, .null, .null, .null])), (q1, .inr (0, [.int 0, .ref (gDe E), .int 0])), (q2, .inr (0, [.int 0, .ref (gDe E), .int 0])), (q3, .inr (0, [.int 0, .ref (gDe E), .int 0])), (q4, .inr (5, [.ref q5, .ref q6])), (q5, .inl (gI E, 200, .inl (fun _ => 0))), (q6, .inl (gI E, 1200, .inl f6))] := by
    intro k y hk
    match k, hk with
    | 0, hk => exact (g5 0 (by decide)).trans (hM 0 y hk)
    | 1, hk => exact (g5 1 (by decide)).trans (hM 1 y hk)
    | 2, hk => exact (g5 2 (by decide)).trans (hM 2 y hk)
    | 3, hk => exact (g5 3 (by decide)).trans (hM 3 y hk)
    | 4, hk => cases hk; exact g1
    | 5, hk => cases hk; exact g2
    | 6, hk => cases hk; exact g3
    | k + 7, hk => cases hk
  have hlen : w2.length = 0 + 7 := g4
  have hfr : ∀ k, k < 0 → w2[k]? = w2[k]? := fun _ _ => rfl
  generalize w2 = zw at hM hlen hfr ⊢
  refine vk_putF (ty := .object "SeriesMarks$Shortening") C hM hlen hfr inX5_init_X5 tyX5 tyX5_ok nmX5 0 rfl rfl 4 (by decide) kwX5_init_25 rfl rfl hnm rfl (by decide +kernel) rfl rfl (Nat.le_of_ble_eq_true rfl) dX5_init_45 (fun zw hM hlen hfr => ?_)
  have hM : bAt 0 zw [(a, .inr (6, [.int 0, .ref q1, .ref q2, .ref q3, .ref q4, .null, .null, .null])), (q1, .inr (0, [.int 0, .ref (gDe E), .int 0])), (q2, .inr (0, [.int 0, .ref (gDe E), .int 0])), (q3, .inr (0, [.int 0, .ref (gDe E), .int 0])), (q4, .inr (5, [.ref q5, .ref q6])), (q5, .inl (gI E, 200, .inl (fun _ => 0))), (q6, .inl (gI E, 1200, .inl f6))] := hM
  refine v_aload_n C dX5_init_48 rfl rfl ?_
  refine v_bipush (v := 6) C dX5_init_49 (by decide) ?_
  refine vk_newi C hM hlen hfr 6 kwX5_init_arri (by decide) (by decide) (by decide) (Nat.le_of_ble_eq_true rfl) (Nat.le_of_ble_eq_true rfl) dX5_init_51 (fun q7 zw hM hlen hfr => ?_)
  have hM : bAt 0 zw [(a, .inr (6, [.int 0, .ref q1, .ref q2, .ref q3, .ref q4, .null, .null, .null])), (q1, .inr (0, [.int 0, .ref (gDe E), .int 0])), (q2, .inr (0, [.int 0, .ref (gDe E), .int 0])), (q3, .inr (0, [.int 0, .ref (gDe E), .int 0])), (q4, .inr (5, [.ref q5, .ref q6])), (q5, .inl (gI E, 200, .inl (fun _ => 0))), (q6, .inl (gI E, 1200, .inl f6)), (q7, .inl (gI E, 6, .inl (fun _ => 0)))] := hM
  refine vk_putF (ty := .array .int) C hM hlen hfr inX5_init_X5 tyX5 tyX5_ok nmX5 0 rfl rfl 5 (by decide) kwX5_init_29 rfl rfl hnm rfl (by decide +kernel) rfl rfl (Nat.le_of_ble_eq_true rfl) dX5_init_53 (fun zw hM hlen hfr => ?_)
  have hM : bAt 0 zw [(a, .inr (6, [.int 0, .ref q1, .ref q2, .ref q3, .ref q4, .ref q7, .null, .null])), (q1, .inr (0, [.int 0, .ref (gDe E), .int 0])), (q2, .inr (0, [.int 0, .ref (gDe E), .int 0])), (q3, .inr (0, [.int 0, .ref (gDe E), .int 0])), (q4, .inr (5, [.ref q5, .ref q6])), (q5, .inl (gI E, 200, .inl (fun _ => 0))), (q6, .inl (gI E, 1200, .inl f6)), (q7, .inl (gI E, 6, .inl (fun _ => 0)))] := hM
  refine v_aload_n C dX5_init_56 rfl rfl ?_
  refine vk_new C hM hlen hfr 2 [.null, .int 0] inX5_init_X1 tyX1 tyX1_ok kwX5_init_cl33 kwX5_init_insX1 kwX5_init_iniX1 rfl (fun j hj => by rcases (show j = 0 ∨ j = 1 by omega) with rfl | rfl <;> rfl) (Nat.le_of_ble_eq_true rfl) (Nat.le_of_ble_eq_true rfl) dX5_init_57 (fun q8 zw hM hlen hfr => ?_)
  have hM : bAt 0 zw [(a, .inr (6, [.int 0, .ref q1, .ref q2, .ref q3, .ref q4, .ref q7, .null, .null])), (q1, .inr (0, [.int 0, .ref (gDe E), .int 0])), (q2, .inr (0, [.int 0, .ref (gDe E), .int 0])), (q3, .inr (0, [.int 0, .ref (gDe E), .int 0])), (q4, .inr (5, [.ref q5, .ref q6])), (q5, .inl (gI E, 200, .inl (fun _ => 0))), (q6, .inl (gI E, 1200, .inl f6)), (q7, .inl (gI E, 6, .inl (fun _ => 0))), (q8, .inr (2, [.null, .int 0]))] := hM
  refine v_dup C dX5_init_60 rfl ?_
  refine v_callINu C (c_X1_init l E zw (hM 8 _ rfl) hlen) ⟨(va_cnB 0 C.1.2.2.2.2 gX5_init_X1_init_n35 rfl rfl rfl (C.2.2.1.2.2.2.1 (RX5, 35, yX1_init) (by decide +kernel)) (C.1.2.2.2.2 _ kwX5_init_iniX1) (by decide +kernel) ⟨by decide, by decide⟩), rfl, C.1.2.2.2.2 _ kwX5_init_imX1_init⟩ rfl rfl (Nat.le_of_ble_eq_true rfl) dX5_init_61 ⟨(Nat.le_of_ble_eq_true rfl), (Nat.le_of_ble_eq_true rfl)⟩ (fun w2 hp => ?_)
  obtain ⟨q9, g1, g2, g4, g5⟩ := hp
  have hM : bAt 0 w2 [(a, .inr (6, [.int 0, .ref q1, .ref q2, .ref q3, .ref q4, .ref q7, .null, .null])), (q1, .inr (0, [.int 0, .ref (gDe E), .int 0])), (q2, .inr (0, [.int 0, .ref (gDe E), .int 0])), (q3, .inr (0, [.int 0, .ref (gDe E), .int 0])), (q4, .inr (5, [.ref q5, .ref q6])), (q5, .inl (gI E, 200, .inl (fun _ => 0))), (q6, .inl (gI E, 1200, .inl f6)), (q7, .inl (gI E, 6, .inl (fun _ => 0))), (q8, .inr (2, [.ref q9, .int 0])), (q9, .inl (gI E, 2000, .inl (fun _ => 0)))] := by
    intro k y hk
    match k, hk with
    | 0, hk => exact (g5 0 (by decide)).trans (hM 0 y hk)
    | 1, hk => exact (g5 1 (by decide)).trans (hM 1 y hk)
    | 2, hk => exact (g5 2 (by decide)).trans (hM 2 y hk)
    | 3, hk => exact (g5 3 (by decide)).trans (hM 3 y hk)
    | 4, hk => exact (g5 4 (by decide)).trans (hM 4 y hk)
    | 5, hk => exact (g5 5 (by decide)).trans (hM 5 y hk)
    | 6, hk => exact (g5 6 (by decide)).trans (hM 6 y hk)
    | 7, hk => exact (g5 7 (by decide)).trans (hM 7 y hk)
    | 8, hk => cases hk; exact g1
    | 9, hk => cases hk; exact g2
    | k + 10, hk => cases hk
  have hlen : w2.length = 0 + 10 := g4
  have hfr : ∀ k, k < 0 → w2[k]? = w2[k]? := fun _ _ => rfl
  generalize w2 = zw at hM hlen hfr ⊢
  refine vk_putF (ty := .object "SeriesMarks$NameSet") C hM hlen hfr inX5_init_X5 tyX5 tyX5_ok nmX5 0 rfl rfl 6 (by decide) kwX5_init_36 rfl rfl hnm rfl (by decide +kernel) rfl rfl (Nat.le_of_ble_eq_true rfl) dX5_init_64 (fun zw hM hlen hfr => ?_)
  have hM : bAt 0 zw [(a, .inr (6, [.int 0, .ref q1, .ref q2, .ref q3, .ref q4, .ref q7, .ref q8, .null])), (q1, .inr (0, [.int 0, .ref (gDe E), .int 0])), (q2, .inr (0, [.int 0, .ref (gDe E), .int 0])), (q3, .inr (0, [.int 0, .ref (gDe E), .int 0])), (q4, .inr (5, [.ref q5, .ref q6])), (q5, .inl (gI E, 200, .inl (fun _ => 0))), (q6, .inl (gI E, 1200, .inl f6)), (q7, .inl (gI E, 6, .inl (fun _ => 0))), (q8, .inr (2, [.ref q9, .int 0])), (q9, .inl (gI E, 2000, .inl (fun _ => 0)))] := hM
  refine v_aload_n C dX5_init_67 rfl rfl ?_
  refine vk_new C hM hlen hfr 2 [.null, .int 0] inX5_init_X1 tyX1 tyX1_ok kwX5_init_cl33 kwX5_init_insX1 kwX5_init_iniX1 rfl (fun j hj => by rcases (show j = 0 ∨ j = 1 by omega) with rfl | rfl <;> rfl) (Nat.le_of_ble_eq_true rfl) (Nat.le_of_ble_eq_true rfl) dX5_init_68 (fun q10 zw hM hlen hfr => ?_)
  have hM : bAt 0 zw [(a, .inr (6, [.int 0, .ref q1, .ref q2, .ref q3, .ref q4, .ref q7, .ref q8, .null])), (q1, .inr (0, [.int 0, .ref (gDe E), .int 0])), (q2, .inr (0, [.int 0, .ref (gDe E), .int 0])), (q3, .inr (0, [.int 0, .ref (gDe E), .int 0])), (q4, .inr (5, [.ref q5, .ref q6])), (q5, .inl (gI E, 200, .inl (fun _ => 0))), (q6, .inl (gI E, 1200, .inl f6)), (q7, .inl (gI E, 6, .inl (fun _ => 0))), (q8, .inr (2, [.ref q9, .int 0])), (q9, .inl (gI E, 2000, .inl (fun _ => 0))), (q10, .inr (2, [.null, .int 0]))] := hM
  refine v_dup C dX5_init_71 rfl ?_
  refine v_callINu C (c_X1_init l E zw (hM 10 _ rfl) hlen) ⟨(va_cnB 0 C.1.2.2.2.2 gX5_init_X1_init_n35 rfl rfl rfl (C.2.2.1.2.2.2.1 (RX5, 35, yX1_init) (by decide +kernel)) (C.1.2.2.2.2 _ kwX5_init_iniX1) (by decide +kernel) ⟨by decide, by decide⟩), rfl, C.1.2.2.2.2 _ kwX5_init_imX1_init⟩ rfl rfl (Nat.le_of_ble_eq_true rfl) dX5_init_72 ⟨(Nat.le_of_ble_eq_true rfl), (Nat.le_of_ble_eq_true rfl)⟩ (fun w2 hp => ?_)
  obtain ⟨q11, g1, g2, g4, g5⟩ := hp
  have hM : bAt 0 w2 [(a, .inr (6, [.int 0, .ref q1, .ref q2, .ref q3, .ref q4, .ref q7, .ref q8, .null])), (q1, .inr (0, [.int 0, .ref (gDe E), .int 0])), (q2, .inr (0, [.int 0, .ref (gDe E), .int 0])), (q3, .inr (0, [.int 0, .ref (gDe E), .int 0])), (q4, .inr (5, [.ref q5, .ref q6])), (q5, .inl (gI E, 200, .inl (fun _ => 0))), (q6, .inl (gI E, 1200, .inl f6)), (q7, .inl (gI E, 6, .inl (fun _ => 0))), (q8, .inr (2, [.ref q9, .int 0])), (q9, .inl (gI E, 2000, .inl (fun _ => 0))), (q10, .inr (2, [.ref q11, .int 0])), (q11, .inl (gI E, 2000, .inl (fun _ => 0)))] := by
    intro k y hk
    match k, hk with
    | 0, hk => exact (g5 0 (by decide)).trans (hM 0 y hk)
    | 1, hk => exact (g5 1 (by decide)).trans (hM 1 y hk)
    | 2, hk => exact (g5 2 (by decide)).trans (hM 2 y hk)
    | 3, hk => exact (g5 3 (by decide)).trans (hM 3 y hk)
    | 4, hk => exact (g5 4 (by decide)).trans (hM 4 y hk)
    | 5, hk => exact (g5 5 (by decide)).trans (hM 5 y hk)
    | 6, hk => exact (g5 6 (by decide)).trans (hM 6 y hk)
    | 7, hk => exact (g5 7 (by decide)).trans (hM 7 y hk)
    | 8, hk => exact (g5 8 (by decide)).trans (hM 8 y hk)
    | 9, hk => exact (g5 9 (by decide)).trans (hM 9 y hk)
    | 10, hk => cases hk; exact g1
    | 11, hk => cases hk; exact g2
    | k + 12, hk => cases hk
  have hlen : w2.length = 0 + 12 := g4
  have hfr : ∀ k, k < 0 → w2[k]? = w2[k]? := fun _ _ => rfl
  generalize w2 = zw at hM hlen hfr ⊢
  refine vk_putF (ty := .object "SeriesMarks$NameSet") C hM hlen hfr inX5_init_X5 tyX5 tyX5_ok nmX5 0 rfl rfl 7 (by decide) kwX5_init_40 rfl rfl hnm rfl (by decide +kernel) rfl rfl (Nat.le_of_ble_eq_true rfl) dX5_init_75 (fun zw hM hlen hfr => ?_)
  have hM : bAt 0 zw [(a, .inr (6, [.int 0, .ref q1, .ref q2, .ref q3, .ref q4, .ref q7, .ref q8, .ref q10])), (q1, .inr (0, [.int 0, .ref (gDe E), .int 0])), (q2, .inr (0, [.int 0, .ref (gDe E), .int 0])), (q3, .inr (0, [.int 0, .ref (gDe E), .int 0])), (q4, .inr (5, [.ref q5, .ref q6])), (q5, .inl (gI E, 200, .inl (fun _ => 0))), (q6, .inl (gI E, 1200, .inl f6)), (q7, .inl (gI E, 6, .inl (fun _ => 0))), (q8, .inr (2, [.ref q9, .int 0])), (q9, .inl (gI E, 2000, .inl (fun _ => 0))), (q10, .inr (2, [.ref q11, .int 0])), (q11, .inl (gI E, 2000, .inl (fun _ => 0)))] := hM
  refine v_vret C hr dX5_init_78 (Nat.le_of_ble_eq_true rfl) (Nat.le_of_ble_eq_true rfl) ?_
  exact ⟨rfl, (fun k => if k = 0 then a else if k = 1 then q1 else if k = 2 then q2 else if k = 3 then q3 else if k = 4 then q4 else if k = 5 then q5 else if k = 6 then q6 else if k = 7 then q7 else if k = 8 then q8 else if k = 9 then q9 else if k = 10 then q10 else q11), f6, rfl, hM 0 _ rfl, hM 1 _ rfl, hM 2 _ rfl, hM 3 _ rfl, hM 4 _ rfl, hM 5 _ rfl, hM 6 _ rfl, hf6, hM 7 _ rfl, hM 8 _ rfl, hM 9 _ rfl, hM 10 _ rfl, hM 11 _ rfl, hlen⟩
