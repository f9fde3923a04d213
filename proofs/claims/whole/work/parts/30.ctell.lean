theorem serF_tj (t0 : Int32) (ar : Nat → Nat → Int32) (j np : Nat) (y : Int32) : serF (tlA t0 ar j np y) j = [.int (ar 4 j), .int (ar 7 j), .int t0, .int y, .int (ar 5 j + 1), .int (ar 9 j + b01 (0 < (ar 5 j).toInt ∧ y.toInt < (ar 6 j).toInt))] := by
  show [Value.int (ar 4 j), .int (ar 7 j), .int (upd (ar 8) j t0 j), .int (upd (ar 6) j y j), .int (upd (ar 5) j (ar 5 j + 1) j), .int (upd (ar 9) j (ar 9 j + b01 (0 < (ar 5 j).toInt ∧ y.toInt < (ar 6 j).toInt)) j)] = _
  rw [pk_us, pk_us, pk_us, pk_us]
theorem serF_tn (t0 : Int32) (ar : Nat → Nat → Int32) {i j : Nat} (h : i ≠ j) (np : Nat) (y : Int32) : serF (tlA t0 ar j np y) i = serF ar i := by
  show [Value.int (ar 4 i), .int (ar 7 i), .int (upd (ar 8) j t0 i), .int (upd (ar 6) j y i), .int (upd (ar 5) j (ar 5 j + 1) i), .int (upd (ar 9) j (ar 9 j + b01 (0 < (ar 5 j).toInt ∧ y.toInt < (ar 6 j).toInt)) i)] = _
  rw [pk_un h, pk_un h, pk_un h, pk_un h]
  rfl
theorem samF_tp (t0 : Int32) (ar : Nat → Nat → Int32) (j np : Nat) (y : Int32) : samF (tlA t0 ar j np y) np = [.int (ar 4 (nI j).toNatClampNeg), .int t0, .int (tlR ar j y)] := by
  show [Value.int (ar 4 (upd (ar 11) np (nI j) np).toNatClampNeg), .int (upd (ar 12) np t0 np), .int (upd (ar 13) np (tlR ar j y) np)] = _
  rw [pk_us, pk_us, pk_us]
theorem samF_tn (t0 : Int32) (ar : Nat → Nat → Int32) (j : Nat) {k np : Nat} (h : k ≠ np) (y : Int32) : samF (tlA t0 ar j np y) k = samF ar k := by
  show [Value.int (ar 4 (upd (ar 11) np (nI j) k).toNatClampNeg), .int (upd (ar 12) np t0 k), .int (upd (ar 13) np (tlR ar j y) k)] = _
  rw [pk_un h, pk_un h, pk_un h]
  rfl
/-- the reference's rows with a new series' name and first tick -/
def nwA (t0 : Int32) (ar : Nat → Nat → Int32) (ns : Nat) (x : Int32) : Nat → Nat → Int32 := va_up (va_up ar 4 (upd (ar 4) ns x)) 7 (upd (ar 7) ns t0)
theorem serF_nj (t0 : Int32) (ar : Nat → Nat → Int32) (ns : Nat) (x : Int32) : serF (nwA t0 ar ns x) ns = [.int x, .int t0, .int (ar 8 ns), .int (ar 6 ns), .int (ar 5 ns), .int (ar 9 ns)] := by
  show [Value.int (upd (ar 4) ns x ns), .int (upd (ar 7) ns t0 ns), .int (ar 8 ns), .int (ar 6 ns), .int (ar 5 ns), .int (ar 9 ns)] = _
  rw [pk_us, pk_us]
theorem serF_nn (t0 : Int32) (ar : Nat → Nat → Int32) {i ns : Nat} (h : i ≠ ns) (x : Int32) : serF (nwA t0 ar ns x) i = serF ar i := by
  show [Value.int (upd (ar 4) ns x i), .int (upd (ar 7) ns t0 i), .int (ar 8 i), .int (ar 6 i), .int (ar 5 i), .int (ar 9 i)] = _
  rw [pk_un h, pk_un h]
  rfl
theorem samF_nn (t0 : Int32) (ar : Nat → Nat → Int32) {k ns : Nat} (h : (ar 11 k).toNatClampNeg ≠ ns) (x : Int32) : samF (nwA t0 ar ns x) k = samF ar k := by
  show [Value.int (upd (ar 4) ns x (ar 11 k).toNatClampNeg), .int (ar 12 k), .int (ar 13 k)] = _
  rw [pk_un h]
  rfl
/-- what tell needs of the reference's rows -/
def TI (ar : Nat → Nat → Int32) (ns np : Nat) : Prop := (∀ i, i < ns → 0 < (ar 5 i).toInt) ∧ (ns < 120 → ar 5 ns = 0 ∧ ar 6 ns = 0 ∧ ar 9 ns = 0) ∧ (∀ k, k < np → ∃ j, j < ns ∧ ar 11 k = nI j)
theorem tlR_pos {ar : Nat → Nat → Int32} {j : Nat} (h : 0 < (ar 5 j).toInt) (y : Int32) : tlR ar j y = if y.toInt < (ar 6 j).toInt then y else y - ar 6 j := by
  unfold tlR
  have h0 : ¬ ar 5 j = 0 := fun e => by
    rw [e, ti_0] at h
    omega
  by_cases q : y.toInt < (ar 6 j).toInt
  · rw [if_pos (Or.inr ⟨h, q⟩), if_pos q]
  · rw [if_neg (fun z => z.elim h0 (fun z => q z.2)), if_neg q]
theorem inX5_tell_X5 : ∀ x ∈ wsX50, x ∈ wsX5_tell := by decide +kernel
theorem kwX5_tell_10 : Cond.fieldLink RX5 10 "SeriesMarks" "allSeries" "Ljava/util/ArrayList;" ∈ wsX5_tell := by decide +kernel
theorem kwX5_tell_cl64 : Cond.classLink RX5 64 "SeriesMarks$Series" ∈ wsX5_tell := by decide +kernel
theorem kwX5_tell_43 : Cond.fieldLink RX5 43 "SeriesMarks" "tick" "I" ∈ wsX5_tell := by decide +kernel
theorem kwX5_tell_16 : Cond.fieldLink RX5 16 "SeriesMarks" "samples" "Ljava/util/ArrayList;" ∈ wsX5_tell := by decide +kernel
theorem inX5_tell_X2 : ∀ x ∈ wsX20, x ∈ wsX5_tell := by decide +kernel
theorem kwX5_tell_cl83 : Cond.classLink RX5 83 RX2 ∈ wsX5_tell := by decide +kernel
theorem kwX5_tell_insX2 : Cond.instantiable RX2 3 ∈ wsX5_tell := by decide +kernel
theorem kwX5_tell_iniX2 : Cond.initialized RX2 ∈ wsX5_tell := by decide +kernel
theorem kwX5_tell_ml85 : Cond.methodLink RX5 85 yX2_init ∈ wsX5_tell := by decide +kernel
theorem kwX5_tell_imX2_init : Cond.instanceMethod yX2_init ∈ wsX5_tell := by decide +kernel
set_option maxHeartbeats 4000000 in
set_option maxRecDepth 100000 in
theorem tl_X5_tell {p : Program} {l : Launch} {e : Env} {s : State} {m : MethodId} {args : Array Value} {below : List Frame} {meth : Method} {c : Code} {E : gE} {zw : va_W} (C : gC p s m args meth c E cX5_tell 6 wsX5_tell yX5_tell.cls) (hr : meth.sig.returnType = some .int) {ca : Nat → Nat} {t0 : Int32} {ns np na : Nat} {q1 q2 q3 : Nat} {p1 p2 p3 : Nat → Nat} {G1 G2 G3 : Nat → List Value} (hX : zw[0]? = some (ca 0, .inr (6, cfs ca t0))) (hL1 : CL E zw 1 4 (ca 1) ns G1 q1 p1) (hL2 : CL E zw 2 3 (ca 2) np G2 q2 p2) (hL3 : CL E zw 3 1 (ca 3) na G3 q3 p3) (hQ : (q1 = q2 → q1 = 0) ∧ (q1 = q3 → q1 = 0) ∧ (q2 = q3 → q2 = 0)) (hns : ns ≤ 120) (hnp : np < 2000) (h31 : 31 ≤ zw.length) {j : Nat} (hj : j < ns) {x y x1 f0 t9 y9 n9 b9 : Int32} (hG : G1 j = [.int x1, .int f0, .int t9, .int y9, .int n9, .int b9]) {post : Int32 → va_W → Prop} (hP : ∀ (w1 : va_W) (qx qy : Nat), CL E w1 1 4 (ca 1) ns (va_up G1 j [.int x1, .int f0, .int t0, .int y, .int (n9 + 1), .int (b9 + b01 (y.toInt < y9.toInt))]) q1 p1 → CL E w1 2 3 (ca 2) (np + 1) (va_up G2 np [.int x, .int t0, .int (if y.toInt < y9.toInt then y else y - y9)]) qx (va_up p2 np qy) → CL E w1 3 1 (ca 3) na G3 q3 p3 → (qx = q2 ∨ zw.length ≤ qx) → 31 ≤ qx → zw.length ≤ w1.length → (∀ k, k < 31 → k ≠ 2 → w1[k]? = zw[k]?) → post (nI j) w1) : V p l e ({ frames := 7, cells := 4, slots := 6009, locals := 171 }) s m args below meth c E 6 zw 2 3006 (MQ below (gQ E (fun v w1 => ∃ r : Int32, v = some (.int r) ∧ post r w1)) args s 4 6009 (gA E)) 136 [(0, .ref (ca 0)), (1, .int x), (2, .int y), (3, .int (nI j))] [] := by
  obtain ⟨fs1, hq1⟩ := hL1.cell
  refine v_aload_n C dX5_tell_136 rfl rfl ?_
  refine v_get (v := .ref (ca 1)) C inX5_tell_X5 0 hX rfl 1 (by decide) kwX5_tell_10 rfl rfl dX5_tell_137 ?_
  refine v_iload_n C dX5_tell_140 rfl rfl ?_
  refine v_callVa C (hL1.get l (j := j) hj) (cwV 1 C.1.2.2.2.2 gX5_tell_Jx4a65c_get_915e3 rfl rfl rfl (by decide +kernel) ⟨by decide, by decide⟩) 1 0 hq1 rfl rfl rfl (Nat.le_of_ble_eq_true rfl) dX5_tell_141 ⟨Nat.le_of_ble_eq_true rfl, Nat.le_of_ble_eq_true rfl⟩ (fun rq w1 hp => ?_)
  obtain ⟨rfl, hob⟩ := hp
  rw [hG] at hob
  refine v_cast C kwX5_tell_cl64 (p1 j) hob rfl dX5_tell_144 ?_
  refine v_iload_n C dX5_tell_147 rfl rfl ?_
  refine v_aload_n C dX5_tell_148 rfl rfl ?_
  refine v_get (v := .int t0) C inX5_tell_X5 0 hX rfl 0 (by decide) kwX5_tell_43 rfl rfl dX5_tell_149 ?_
  refine v_callVi C (c_X3_takeSample l E zw hob y t0) (cwV 2 C.1.2.2.2.2 gX5_tell_X3_takeSample rfl rfl rfl (by decide +kernel) ⟨by decide, by decide⟩) (p1 j) 4 hob rfl rfl rfl (Nat.le_of_ble_eq_true rfl) dX5_tell_152 ⟨Nat.le_of_ble_eq_true rfl, Nat.le_of_ble_eq_true rfl⟩ (fun r zw hp => ?_)
  obtain ⟨hr9, k1, hO⟩ := hp
  have hp31 := hL1.pl hj
  have hl8 := hO.1
  have hf8 : ∀ k, k < 31 → zw[k]? = _ := fun k hk => hO.2 k (by omega)
  have hX := (hO.2 0 (by omega)).trans hX
  have hL2 := hL2.other (by decide) hob hp31 (by decide) hO
  have hL3 := hL3.other (by decide) hob hp31 (by decide) hO
  have hL1 := hL1.upd (G1 := (va_up G1 j [.int x1, .int f0, .int t0, .int y, .int (n9 + 1), .int (b9 + b01 (y.toInt < y9.toInt))])) (by decide) hj hob (by rw [va_up_self]; exact k1) hO (fun i _ hi => va_up_ne _ _ hi)
  obtain ⟨fs2, hq2⟩ := hL2.cell
  rw [hr9]
  clear hr9
  refine v_at (pc9 := 155) rfl ?_
  refine v_istore C dX5_tell_155 (by decide) rfl ?_
  refine v_aload_n C dX5_tell_157 rfl rfl ?_
  refine v_get (v := .ref (ca 2)) C inX5_tell_X5 0 hX rfl 2 (by decide) kwX5_tell_16 rfl rfl dX5_tell_158 ?_
  have hL10 := hL1
  have hL20 := hL2
  have hL30 := hL3
  have hX0 := hX
  obtain ⟨qn, hqn⟩ : ∃ q9 : Nat, zw.length = q9 := ⟨_, rfl⟩
  refine vo_new C hqn 3 [.int 0, .int 0, .int 0] inX5_tell_X2 tyX2 tyX2_ok kwX5_tell_cl83 kwX5_tell_insX2 kwX5_tell_iniX2 rfl (fun j hj => by rcases (show j = 0 ∨ j = 1 ∨ j = 2 by omega) with rfl | rfl | rfl <;> rfl) (Nat.le_of_ble_eq_true rfl) (Nat.le_of_ble_eq_true rfl) dX5_tell_161 (fun ya zw hn1 hn2 hn3 => ?_)
  have hX := (hn3 0 (by omega)).trans hX
  refine v_dup C dX5_tell_164 rfl ?_
  refine v_iload_n C dX5_tell_165 rfl rfl ?_
  refine v_aload_n C dX5_tell_166 rfl rfl ?_
  refine v_get (v := .int t0) C inX5_tell_X5 0 hX rfl 0 (by decide) kwX5_tell_43 rfl rfl dX5_tell_167 ?_
  refine v_iload C dX5_tell_170 rfl ?_
  refine v_callIu C (c_X2_init l E zw hn1 _ _ _) (cwI 3 C.1.2.2.2.2 gX5_tell_X2_init rfl rfl rfl (C.1.2.2.2.2 _ kwX5_tell_iniX2) (C.1.2.2.2.2 _ kwX5_tell_ml85) (C.1.2.2.2.2 _ kwX5_tell_imX2_init) rfl (by decide +kernel) ⟨by decide, by decide⟩) rfl rfl (Nat.le_of_ble_eq_true rfl) dX5_tell_172 ⟨Nat.le_of_ble_eq_true rfl, Nat.le_of_ble_eq_true rfl⟩ (fun zw hp => ?_)
  obtain ⟨hn1, hO⟩ := hp
  have hl9 : zw.length = qn + 1 := hO.1.trans hn2
  have hn3 := fun k (hk : k < qn) => (hO.2 k (Nat.ne_of_lt hk)).trans (hn3 k hk)
  have hL1 := hL10.keepL (hqn ▸ hn3)
  have hL2 := hL20.keepL (hqn ▸ hn3)
  have hL3 := hL30.keepL (hqn ▸ hn3)
  obtain ⟨fs2, hq2⟩ := hL2.cell
  refine v_at (pc9 := 175) rfl ?_
  refine v_callVi C (CL.add l hL2 (by decide) (by omega) (by omega) (ci := 3) rfl (by decide) (by decide) hn1 (by omega) (fun i hi => Nat.ne_of_lt (by have := hL20.lt hi; omega))) (cwV 1 C.1.2.2.2.2 gX5_tell_Jx4a65c_add_9ea2d rfl rfl rfl (by decide +kernel) ⟨by decide, by decide⟩) 2 0 hq2 rfl rfl rfl (Nat.le_of_ble_eq_true rfl) dX5_tell_175 ⟨Nat.le_of_ble_eq_true rfl, Nat.le_of_ble_eq_true rfl⟩ (fun r zw hp => ?_)
  obtain ⟨qe1, k1, k2, k3, k4, k5⟩ := hp
  refine v_pop C dX5_tell_178 rfl ?_
  refine v_iload_n C dX5_tell_179 rfl rfl ?_
  refine v_iret C hr dX5_tell_180 (Nat.le_of_ble_eq_true rfl) (Nat.le_of_ble_eq_true rfl) ?_
  exact ⟨_, rfl, hP _ qe1 qn (hL2.fr hL1 (by decide) (by decide) (by decide) hQ.1 k5) k1 (hL2.fr hL3 (by decide) (by decide) (by decide) (fun e => by have := hQ.2.2 e.symm; omega) k5) (by omega) k3 (by omega) (fun k z1 z2 => ((k5 k (by omega) z2 (Or.inr z1)).trans (hn3 k (by omega))).trans (hf8 k z1))⟩
theorem kwX5_tell_c55 : Cond.constant RX5 55 (1000000000) ∈ wsX5_tell := by decide +kernel
theorem inX5_tell_X3 : ∀ x ∈ wsX30, x ∈ wsX5_tell := by decide +kernel
theorem kwX5_tell_insX3 : Cond.instantiable RX3 6 ∈ wsX5_tell := by decide +kernel
theorem kwX5_tell_iniX3 : Cond.initialized RX3 ∈ wsX5_tell := by decide +kernel
theorem kwX5_tell_ml73 : Cond.methodLink RX5 73 yX3_init ∈ wsX5_tell := by decide +kernel
theorem kwX5_tell_imX3_init : Cond.instanceMethod yX3_init ∈ wsX5_tell := by decide +kernel
set_option maxHeartbeats 4000000 in
set_option maxRecDepth 100000 in
theorem c_X5_tell (l : Launch) (E : gE) (zw : va_W) {ca : Nat → Nat} {t0 : Int32} {ar : Nat → Nat → Int32} {dr ch : Nat → Int32} {ns np na : Nat} {qe : Nat → Nat} {pl : Nat → Nat → Nat} (hC : CF E ca zw t0 ar dr ch ns np na qe pl) (hb : ns ≤ 120 ∧ np ≤ 2000 ∧ na ≤ 10) (hQ : CQ qe) (h31 : 31 ≤ zw.length) (hT : TI ar ns np) (x y : Int32) : CtI l yX5_tell wsX5_tell ({ frames := 7, cells := 4, slots := 6009, locals := 171 }) E [.ref (ca 0), .int x, .int y] zw (fun r w1 => ((¬ ((0 ≤ x.toInt ∧ x.toInt ≤ 262143) ∧ 0 ≤ y.toInt ∧ y.toInt ≤ 1000000000) ∧ zw = w1 ∧ r = (-2)) ∨ (((0 ≤ x.toInt ∧ x.toInt ≤ 262143) ∧ 0 ≤ y.toInt ∧ y.toInt ≤ 1000000000) ∧ ∃ j, j < ns ∧ ar 4 j = x ∧ (∀ q, q < j → ¬ ar 4 q = x) ∧ ((ar 8 j = t0 ∧ zw = w1 ∧ r = (-3)) ∨ (¬ ar 8 j = t0 ∧ np = 2000 ∧ zw = w1 ∧ r = (-4)) ∨ (¬ ar 8 j = t0 ∧ np < 2000 ∧ r = nI j ∧ ∃ (qe1 : Nat → Nat) (pl1 : Nat → Nat → Nat), CF E ca w1 t0 (tlA t0 ar j np y) dr ch ns (np + 1) na qe1 pl1 ∧ CQ qe1 ∧ gFr zw w1))) ∨ (((0 ≤ x.toInt ∧ x.toInt ≤ 262143) ∧ 0 ≤ y.toInt ∧ y.toInt ≤ 1000000000) ∧ (∀ q, q < ns → ¬ ar 4 q = x) ∧ (((ns = 120 ∨ np = 2000) ∧ zw = w1 ∧ r = (-4)) ∨ (ns < 120 ∧ np < 2000 ∧ r = nI ns ∧ ∃ (qe1 : Nat → Nat) (pl1 : Nat → Nat → Nat), CF E ca w1 t0 (tlA t0 (nwA t0 ar ns x) ns np y) dr ch (ns + 1) (np + 1) na qe1 pl1 ∧ CQ qe1 ∧ gFr zw w1))))) 4 6009 := by
  refine Ct.of (cc := cX5_tell) (nL := 6) (ret := (some .int)) (by decide) rfl (Nat.le_of_ble_eq_true rfl) ?_
  intro p e s m args below meth c C hr hnm
  refine v_eqlv (lv9 := [(0, .ref (ca 0)), (1, .int x), (2, .int y)]) rfl ?_
  obtain ⟨hX, h4, h5, h6, h7, hL1, hL2, hL3⟩ := id hC
  obtain ⟨fs1, hq1⟩ := hL1.cell
  obtain ⟨fs2, hq2⟩ := hL2.cell
  obtain ⟨fs3, hq3⟩ := hL3.cell
  refine v_iload_n C dX5_tell_0 rfl rfl ?_
  refine v_callSi C (c_X5_isName l E zw _ ) (va_cwS 1 C.1.2.2.2.2 gX5_tell_X5_isName rfl rfl rfl (by decide +kernel) ⟨by decide, by decide⟩) rfl rfl (Nat.le_of_ble_eq_true rfl) dX5_tell_1 ⟨Nat.le_of_ble_eq_true rfl, Nat.le_of_ble_eq_true rfl⟩ (fun r w1 hp => ?_)
  obtain ⟨rfl, hr9⟩ := hp
  rw [hr9]
  clear hr9
  refine v_if_eq (tgt := 17) C dX5_tell_4 (by decide) (fun c4 => ?_) (fun c4 => ?_)
  · have c4 := b01_0 c4
    refine v_bipush (v := (-2)) C dX5_tell_17 (by decide) ?_
    refine v_iret C hr dX5_tell_19 (Nat.le_of_ble_eq_true rfl) (Nat.le_of_ble_eq_true rfl) ?_
    exact ⟨_, rfl, Or.inl ⟨fun h => by first | exact c4 h.1 | omega, rfl, rfl⟩⟩
  · have c4 := b01_n c4
    refine v_iload_n C dX5_tell_7 rfl rfl ?_
    refine v_if_lt (tgt := 17) C dX5_tell_8 (by decide) (fun c8 => ?_) (fun c8 => ?_)
    · rw [fa_lt, ti_0] at c8
      refine v_bipush (v := (-2)) C dX5_tell_17 (by decide) ?_
      refine v_iret C hr dX5_tell_19 (Nat.le_of_ble_eq_true rfl) (Nat.le_of_ble_eq_true rfl) ?_
      exact ⟨_, rfl, Or.inl ⟨fun h => by first | exact c4 h.1 | omega, rfl, rfl⟩⟩
    · rw [fa_lt, ti_0] at c8
      refine v_iload_n C dX5_tell_11 rfl rfl ?_
      refine v_ldc C kwX5_tell_c55 dX5_tell_12 ?_
      refine v_icmp_le (tgt := 20) C dX5_tell_14 (by decide) (fun c14 => ?_) (fun c14 => ?_)
      · rw [fa_le, ti_g] at c14
        refine v_aload_n C dX5_tell_20 rfl rfl ?_
        refine v_iload_n C dX5_tell_21 rfl rfl ?_
        refine v_callVi C (c_X5_numberOf l E zw hC hb _) (cwV 1 C.1.2.2.2.2 gX5_tell_X5_numberOf rfl rfl rfl (by decide +kernel) ⟨by decide, by decide⟩) 0 6 hX rfl rfl rfl (Nat.le_of_ble_eq_true rfl) dX5_tell_22 ⟨Nat.le_of_ble_eq_true rfl, Nat.le_of_ble_eq_true rfl⟩ (fun r w1 hp => ?_)
        obtain ⟨rfl, hr9⟩ := hp
        rw [hr9]
        clear hr9
        rcases spl_spec (ar 4) x ns with ⟨j, hj, e1, e2, e3⟩ | ⟨e2, e3⟩
        · rw [e3]
          refine v_istore_n C dX5_tell_25 rfl (by decide) rfl ?_
          refine v_iload_n C dX5_tell_26 rfl rfl ?_
          refine v_bipush (v := (-9)) C dX5_tell_27 (by decide) ?_
          refine v_icmp_eq (tgt := 56) C dX5_tell_29 (by decide) (fun c29 => absurd c29 (nI_n9 (by omega))) (fun c29 => ?_)
          refine v_aload_n C dX5_tell_32 rfl rfl ?_
          refine v_get (v := .ref (ca 1)) C inX5_tell_X5 0 hX rfl 1 (by decide) kwX5_tell_10 rfl rfl dX5_tell_33 ?_
          refine v_iload_n C dX5_tell_36 rfl rfl ?_
          refine v_callVa C (hL1.get l (j := j) hj) (cwV 1 C.1.2.2.2.2 gX5_tell_Jx4a65c_get_915e3 rfl rfl rfl (by decide +kernel) ⟨by decide, by decide⟩) 1 0 hq1 rfl rfl rfl (Nat.le_of_ble_eq_true rfl) dX5_tell_37 ⟨Nat.le_of_ble_eq_true rfl, Nat.le_of_ble_eq_true rfl⟩ (fun rq w1 hp => ?_)
          obtain ⟨rfl, hob⟩ := hp
          refine v_cast C kwX5_tell_cl64 (pl 1 j) hob rfl dX5_tell_40 ?_
          refine v_at (pc9 := 43) rfl ?_
          refine v_getN (v := .int (ar 8 j)) C inX5_tell_X3 rfl (pl 1 j) hob rfl 2 (by decide) (by decide +kernel) rfl dX5_tell_43 ?_
          refine v_aload_n C dX5_tell_46 rfl rfl ?_
          refine v_get (v := .int t0) C inX5_tell_X5 0 hX rfl 0 (by decide) kwX5_tell_43 rfl rfl dX5_tell_47 ?_
          refine v_icmp_ne (tgt := 56) C dX5_tell_50 (by decide) (fun c50 => ?_) (fun c50 => ?_)
          · refine v_iload_n C dX5_tell_56 rfl rfl ?_
            refine v_bipush (v := (-9)) C dX5_tell_57 (by decide) ?_
            refine v_icmp_ne (tgt := 78) C dX5_tell_59 (by decide) (fun c59 => ?_) (fun c59 => absurd c59 (nI_n9 (by omega)))
            refine v_iconst (v := 0) C dX5_tell_78 (by decide) ?_
            refine v_istore C dX5_tell_79 (by decide) rfl ?_
            refine v_iload C dX5_tell_81 rfl ?_
            refine v_if_ne (tgt := 99) C dX5_tell_83 (by decide) (fun c83 => absurd c83 (fun h => h rfl)) (fun c83 => ?_)
            refine v_aload_n C dX5_tell_86 rfl rfl ?_
            refine v_get (v := .ref (ca 2)) C inX5_tell_X5 0 hX rfl 2 (by decide) kwX5_tell_16 rfl rfl dX5_tell_87 ?_
            refine v_at (pc9 := 90) rfl ?_
            refine v_callVi C (hL2.size l) (cwV 0 C.1.2.2.2.2 gX5_tell_Jx4a65c_size_8abf5 rfl rfl rfl (by decide +kernel) ⟨by decide, by decide⟩) 2 0 hq2 rfl rfl rfl (Nat.le_of_ble_eq_true rfl) dX5_tell_90 ⟨Nat.le_of_ble_eq_true rfl, Nat.le_of_ble_eq_true rfl⟩ (fun r w1 hp => ?_)
            obtain ⟨rfl, rfl⟩ := hp
            refine v_sipush (v := 2000) C dX5_tell_93 (by decide) ?_
            refine v_icmp_lt (tgt := 102) C dX5_tell_96 (by decide) (fun c96 => ?_) (fun c96 => ?_)
            · rw [fa_lt, ti_2000, nI_toInt (by omega)] at c96
              refine v_iload_n C dX5_tell_102 rfl rfl ?_
              refine v_bipush (v := (-9)) C dX5_tell_103 (by decide) ?_
              refine v_icmp_ne (tgt := 136) C dX5_tell_105 (by decide) (fun c105 => ?_) (fun c105 => absurd c105 (nI_n9 (by omega)))
              refine v_pick (lv9 := [(0, .ref (ca 0)), (1, .int x), (2, .int y), (3, .int (nI j))]) ⟨rfl, rfl, rfl, rfl, trivial⟩ ?_
              refine v_widen (kc := 2) (ks := 3006) (Nat.le_of_ble_eq_true rfl) (Nat.le_of_ble_eq_true rfl) ?_
              refine tl_X5_tell C hr hX hL1 hL2 hL3 hQ hb.1 (by omega) h31 hj (G1 := serF ar) (x1 := ar 4 j) (f0 := ar 7 j) (t9 := ar 8 j) (y9 := ar 6 j) (n9 := ar 5 j) (b9 := ar 9 j) rfl ?_
              intro w1 qx qy z1 z2 z3 z4 z5 z6 z7
              refine Or.inr (Or.inl ⟨⟨c4, by omega, by omega⟩, j, hj, e1, e2, Or.inr (Or.inr ⟨c50, by omega, rfl, va_up qe 2 qx, va_up pl 2 (va_up (pl 2) np qy), ⟨(z7 0 (by decide) (by decide)).trans hX, (z7 4 (by decide) (by decide)).trans h4, (z7 5 (by decide) (by decide)).trans h5, (z7 6 (by decide) (by decide)).trans h6, (z7 7 (by decide) (by decide)).trans h7, ?_, ?_, z3⟩, ?_, ⟨z6, fun k a1 a2 => z7 k a2 (by omega)⟩⟩)⟩)
              · refine CL.congr z1 (fun i hi => ?_)
                rcases Nat.decEq i j with q | q
                · rw [va_up_ne _ _ q, serF_tn t0 ar q np y]
                · subst q
                  rw [va_up_self, serF_tj, b01_c (show (0 < (ar 5 i).toInt ∧ y.toInt < (ar 6 i).toInt) ↔ y.toInt < (ar 6 i).toInt from ⟨fun h => h.2, fun h => ⟨hT.1 i hj, h⟩⟩)]
              · refine CL.congr z2 (fun i hi => ?_)
                rcases Nat.lt_or_ge i np with q | q
                · rw [va_up_ne _ _ (Nat.ne_of_lt q), samF_tn t0 ar j (Nat.ne_of_lt q) y]
                · obtain rfl : i = np := by omega
                  rw [va_up_self, samF_tp, nI_clamp (show j < 2 ^ 31 by omega), e1, tlR_pos (hT.1 j hj) y]
              · have y1 := hL1.qlt (by omega)
                have y3 := hL3.qlt (by omega)
                refine ⟨fun e9 => ?_, hQ.2.1, fun e9 => ?_⟩
                · have e9 : qe 1 = qx := e9
                  show qe 1 = 0
                  rcases z4 with z4 | z4
                  · exact hQ.1 (by omega)
                  · omega
                · have e9 : qx = qe 3 := e9
                  show qx = 0
                  rcases z4 with z4 | z4
                  · have := hQ.2.2 (by omega)
                    omega
                  · omega
            · rw [fa_lt, ti_2000, nI_toInt (by omega)] at c96
              refine v_bipush (v := (-4)) C dX5_tell_99 (by decide) ?_
              refine v_iret C hr dX5_tell_101 (Nat.le_of_ble_eq_true rfl) (Nat.le_of_ble_eq_true rfl) ?_
              exact ⟨_, rfl, Or.inr (Or.inl ⟨⟨c4, by omega, by omega⟩, j, hj, e1, e2, Or.inr (Or.inl ⟨c50, by omega, rfl, rfl⟩)⟩)⟩
          · refine v_bipush (v := (-3)) C dX5_tell_53 (by decide) ?_
            refine v_iret C hr dX5_tell_55 (Nat.le_of_ble_eq_true rfl) (Nat.le_of_ble_eq_true rfl) ?_
            exact ⟨_, rfl, Or.inr (Or.inl ⟨⟨c4, by omega, by omega⟩, j, hj, e1, e2, Or.inl ⟨c50, rfl, rfl⟩⟩)⟩
        · rw [e3]
          refine v_istore_n C dX5_tell_25 rfl (by decide) rfl ?_
          refine v_iload_n C dX5_tell_26 rfl rfl ?_
          refine v_bipush (v := (-9)) C dX5_tell_27 (by decide) ?_
          refine v_icmp_eq (tgt := 56) C dX5_tell_29 (by decide) (fun c29 => ?_) (fun c29 => absurd rfl c29)
          refine v_iload_n C dX5_tell_56 rfl rfl ?_
          refine v_bipush (v := (-9)) C dX5_tell_57 (by decide) ?_
          refine v_icmp_ne (tgt := 78) C dX5_tell_59 (by decide) (fun c59 => absurd c59 (fun h => h rfl)) (fun c59 => ?_)
          refine v_aload_n C dX5_tell_62 rfl rfl ?_
          refine v_get (v := .ref (ca 1)) C inX5_tell_X5 0 hX rfl 1 (by decide) kwX5_tell_10 rfl rfl dX5_tell_63 ?_
          refine v_at (pc9 := 66) rfl ?_
          refine v_callVi C (hL1.size l) (cwV 0 C.1.2.2.2.2 gX5_tell_Jx4a65c_size_8abf5 rfl rfl rfl (by decide +kernel) ⟨by decide, by decide⟩) 1 0 hq1 rfl rfl rfl (Nat.le_of_ble_eq_true rfl) dX5_tell_66 ⟨Nat.le_of_ble_eq_true rfl, Nat.le_of_ble_eq_true rfl⟩ (fun r w1 hp => ?_)
          obtain ⟨rfl, rfl⟩ := hp
          refine v_bipush (v := 120) C dX5_tell_69 (by decide) ?_
          refine v_icmp_lt (tgt := 78) C dX5_tell_71 (by decide) (fun c71 => ?_) (fun c71 => ?_)
          · rw [fa_lt, ti_120, nI_toInt (by omega)] at c71
            refine v_iconst (v := 0) C dX5_tell_78 (by decide) ?_
            refine v_istore C dX5_tell_79 (by decide) rfl ?_
            refine v_iload C dX5_tell_81 rfl ?_
            refine v_if_ne (tgt := 99) C dX5_tell_83 (by decide) (fun c83 => absurd c83 (fun h => h rfl)) (fun c83 => ?_)
            refine v_aload_n C dX5_tell_86 rfl rfl ?_
            refine v_get (v := .ref (ca 2)) C inX5_tell_X5 0 hX rfl 2 (by decide) kwX5_tell_16 rfl rfl dX5_tell_87 ?_
            refine v_callVi C (hL2.size l) (cwV 0 C.1.2.2.2.2 gX5_tell_Jx4a65c_size_8abf5 rfl rfl rfl (by decide +kernel) ⟨by decide, by decide⟩) 2 0 hq2 rfl rfl rfl (Nat.le_of_ble_eq_true rfl) dX5_tell_90 ⟨Nat.le_of_ble_eq_true rfl, Nat.le_of_ble_eq_true rfl⟩ (fun r w1 hp => ?_)
            obtain ⟨rfl, rfl⟩ := hp
            refine v_sipush (v := 2000) C dX5_tell_93 (by decide) ?_
            refine v_icmp_lt (tgt := 102) C dX5_tell_96 (by decide) (fun c96 => ?_) (fun c96 => ?_)
            · rw [fa_lt, ti_2000, nI_toInt (by omega)] at c96
              refine v_iload_n C dX5_tell_102 rfl rfl ?_
              refine v_bipush (v := (-9)) C dX5_tell_103 (by decide) ?_
              refine v_icmp_ne (tgt := 136) C dX5_tell_105 (by decide) (fun c105 => absurd c105 (fun h => h rfl)) (fun c105 => ?_)
              refine v_aload_n C dX5_tell_108 rfl rfl ?_
              refine v_get (v := .ref (ca 1)) C inX5_tell_X5 0 hX rfl 1 (by decide) kwX5_tell_10 rfl rfl dX5_tell_109 ?_
              refine v_callVi C (hL1.size l) (cwV 0 C.1.2.2.2.2 gX5_tell_Jx4a65c_size_8abf5 rfl rfl rfl (by decide +kernel) ⟨by decide, by decide⟩) 1 0 hq1 rfl rfl rfl (Nat.le_of_ble_eq_true rfl) dX5_tell_112 ⟨Nat.le_of_ble_eq_true rfl, Nat.le_of_ble_eq_true rfl⟩ (fun r w1 hp => ?_)
              obtain ⟨rfl, rfl⟩ := hp
              refine v_istore_n C dX5_tell_115 rfl (by decide) rfl ?_
              refine v_aload_n C dX5_tell_116 rfl rfl ?_
              refine v_get (v := .ref (ca 1)) C inX5_tell_X5 0 hX rfl 1 (by decide) kwX5_tell_10 rfl rfl dX5_tell_117 ?_
              have hC0 := hC
              have hL10 := hL1
              obtain ⟨qn, hqn⟩ : ∃ q9 : Nat, zw.length = q9 := ⟨_, rfl⟩
              refine vo_new C hqn 4 [.int 0, .int 0, .int 0, .int 0, .int 0, .int 0] inX5_tell_X3 tyX3 tyX3_ok kwX5_tell_cl64 kwX5_tell_insX3 kwX5_tell_iniX3 rfl (fun j hj => by rcases (show j = 0 ∨ j = 1 ∨ j = 2 ∨ j = 3 ∨ j = 4 ∨ j = 5 by omega) with rfl | rfl | rfl | rfl | rfl | rfl <;> rfl) (Nat.le_of_ble_eq_true rfl) (Nat.le_of_ble_eq_true rfl) dX5_tell_120 (fun ya zw hn1 hn2 hn3 => ?_)
              have hX := (hn3 0 (by omega)).trans hX
              refine v_dup C dX5_tell_123 rfl ?_
              refine v_iload_n C dX5_tell_124 rfl rfl ?_
              refine v_aload_n C dX5_tell_125 rfl rfl ?_
              refine v_get (v := .int t0) C inX5_tell_X5 0 hX rfl 0 (by decide) kwX5_tell_43 rfl rfl dX5_tell_126 ?_
              refine v_callIu C (c_X3_init l E zw hn1 _ _) (cwI 2 C.1.2.2.2.2 gX5_tell_X3_init rfl rfl rfl (C.1.2.2.2.2 _ kwX5_tell_iniX3) (C.1.2.2.2.2 _ kwX5_tell_ml73) (C.1.2.2.2.2 _ kwX5_tell_imX3_init) rfl (by decide +kernel) ⟨by decide, by decide⟩) rfl rfl (Nat.le_of_ble_eq_true rfl) dX5_tell_129 ⟨Nat.le_of_ble_eq_true rfl, Nat.le_of_ble_eq_true rfl⟩ (fun zw hp => ?_)
              obtain ⟨hn1, hO⟩ := hp
              have hl9 : zw.length = qn + 1 := hO.1.trans hn2
              have hn3 := fun k (hk : k < qn) => (hO.2 k (Nat.ne_of_lt hk)).trans (hn3 k hk)
              have hC := hC0.keepL hqn hn3
              obtain ⟨hX, h4, h5, h6, h7, hL1, hL2, hL3⟩ := id hC
              obtain ⟨fs1, hq1⟩ := hL1.cell
              obtain ⟨fs2, hq2⟩ := hL2.cell
              obtain ⟨fs3, hq3⟩ := hL3.cell
              refine v_callVi C (CL.add l hL1 (by decide) (by omega) (by omega) (ci := 4) rfl (by decide) (by decide) hn1 (by omega) (fun i hi => Nat.ne_of_lt (by have := hL10.lt hi; omega))) (cwV 1 C.1.2.2.2.2 gX5_tell_Jx4a65c_add_9ea2d rfl rfl rfl (by decide +kernel) ⟨by decide, by decide⟩) 1 0 hq1 rfl rfl rfl (Nat.le_of_ble_eq_true rfl) dX5_tell_132 ⟨Nat.le_of_ble_eq_true rfl, Nat.le_of_ble_eq_true rfl⟩ (fun r zw hp => ?_)
              obtain ⟨qe1, k1, k2, k3, k4, k5⟩ := hp
              have y1 := k1.qlt (by omega)
              have y2 := hL2.qlt (by omega)
              have y3 := hL3.qlt (by omega)
              have hX := (k5 0 (by omega) (by decide) (Or.inr (by decide))).trans hX
              have kL2 := hL1.fr hL2 (by decide) (by decide) (by decide) (fun e => by have := hQ.1 e.symm; omega) k5
              have kL3 := hL1.fr hL3 (by decide) (by decide) (by decide) (fun e => by have := hQ.2.1 e.symm; omega) k5
              refine v_pop C dX5_tell_135 rfl ?_
              refine v_pick (lv9 := [(0, .ref (ca 0)), (1, .int x), (2, .int y), (3, .int (nI ns))]) ⟨rfl, rfl, rfl, rfl, trivial⟩ ?_
              refine v_widen (kc := 2) (ks := 3006) (Nat.le_of_ble_eq_true rfl) (Nat.le_of_ble_eq_true rfl) ?_
              obtain ⟨t1, t2, t3⟩ := hT
              obtain ⟨u1, u2, u3⟩ := t2 (by omega)
              have hQ2 : (qe1 = qe 2 → qe1 = 0) ∧ (qe1 = qe 3 → qe1 = 0) ∧ (qe 2 = qe 3 → qe 2 = 0) := by
                refine ⟨fun e9 => ?_, fun e9 => ?_, hQ.2.2⟩
                · rcases k2 with k2 | k2
                  · have := hQ.1 (by omega)
                    omega
                  · omega
                · rcases k2 with k2 | k2
                  · have := hQ.2.1 (by omega)
                    omega
                  · omega
              refine tl_X5_tell C hr hX k1 kL2 kL3 hQ2 (by omega) (by omega) (by omega) (j := ns) (Nat.lt_succ_self ns) (x1 := x) (f0 := t0) (t9 := t0) (y9 := 0) (n9 := 0) (b9 := 0) (va_up_self _ _ _) ?_
              intro w1 qx qy z1 z2 z3 z4 z5 z6 z7
              have hlt : ¬ y.toInt < (0 : Int32).toInt := by rw [ti_0]; omega
              have hf9 : ∀ k, k < 31 → k ≠ 1 → k ≠ 2 → w1[k]? = _ := fun k a1 a2 a3 => ((z7 k a1 a3).trans (k5 k (by omega) a2 (Or.inr a1))).trans (hn3 k (by omega))
              refine Or.inr (Or.inr ⟨⟨c4, by omega, by omega⟩, e2, Or.inr ⟨by omega, by omega, rfl, va_up (va_up qe 1 qe1) 2 qx, va_up (va_up pl 1 (va_up (pl 1) ns qn)) 2 (va_up (pl 2) np qy), ⟨(hf9 0 (by decide) (by decide) (by decide)).trans hC0.1, (hf9 4 (by decide) (by decide) (by decide)).trans hC0.2.1, (hf9 5 (by decide) (by decide) (by decide)).trans hC0.2.2.1, (hf9 6 (by decide) (by decide) (by decide)).trans hC0.2.2.2.1, (hf9 7 (by decide) (by decide) (by decide)).trans hC0.2.2.2.2.1, ?_, ?_, z3⟩, ?_, ⟨by omega, fun k a1 a2 => hf9 k a2 (by omega) (by omega)⟩⟩⟩)
              · refine CL.congr z1 (fun i hi => ?_)
                rcases Nat.decEq i ns with q | q
                · rw [va_up_ne _ _ q, va_up_ne _ _ q, serF_tn t0 _ q np y, serF_nn t0 ar q x]
                · subst q
                  rw [va_up_self, serF_tj]
                  show [Value.int (upd (ar 4) i x i), .int (upd (ar 7) i t0 i), .int t0, .int y, .int (ar 5 i + 1), .int (ar 9 i + b01 (0 < (ar 5 i).toInt ∧ y.toInt < (ar 6 i).toInt))] = _
                  rw [pk_us, pk_us, u1, u3, b01_f hlt, b01_f (fun h => absurd h.1 (by rw [ti_0]; omega))]
              · refine CL.congr z2 (fun i hi => ?_)
                rcases Nat.lt_or_ge i np with q | q
                · obtain ⟨jj, v1, v2⟩ := t3 i q
                  rw [va_up_ne _ _ (Nat.ne_of_lt q), samF_tn t0 _ ns (Nat.ne_of_lt q) y, samF_nn t0 ar (by rw [v2, nI_clamp (by omega)]; omega) x]
                · obtain rfl : i = np := by omega
                  rw [va_up_self, samF_tp, nI_clamp (show ns < 2 ^ 31 by omega)]
                  show [Value.int (upd (ar 4) ns x ns), .int t0, .int (if ar 5 ns = 0 ∨ (0 < (ar 5 ns).toInt ∧ y.toInt < (ar 6 ns).toInt) then y else y - ar 6 ns)] = _
                  rw [pk_us, if_pos (Or.inl u1), if_neg hlt, Int32.sub_zero]
              · refine ⟨fun e9 => ?_, hQ2.2.1, fun e9 => ?_⟩
                · have e9 : qe1 = qx := e9
                  show qe1 = 0
                  rcases z4 with z4 | z4
                  · exact hQ2.1 (by omega)
                  · omega
                · have e9 : qx = qe 3 := e9
                  show qx = 0
                  rcases z4 with z4 | z4
                  · have := hQ2.2.2 (by omega)
                    omega
                  · omega
            · rw [fa_lt, ti_2000, nI_toInt (by omega)] at c96
              refine v_bipush (v := (-4)) C dX5_tell_99 (by decide) ?_
              refine v_iret C hr dX5_tell_101 (Nat.le_of_ble_eq_true rfl) (Nat.le_of_ble_eq_true rfl) ?_
              exact ⟨_, rfl, Or.inr (Or.inr ⟨⟨c4, by omega, by omega⟩, e2, Or.inl ⟨Or.inr (by omega), rfl, rfl⟩⟩)⟩
          · rw [fa_lt, ti_120, nI_toInt (by omega)] at c71
            refine v_iconst (v := 1) C dX5_tell_74 (by decide) ?_
            refine v_goto (tgt := 79) C dX5_tell_75 (by decide) ?_
            refine v_istore C dX5_tell_79 (by decide) rfl ?_
            refine v_iload C dX5_tell_81 rfl ?_
            refine v_if_ne (tgt := 99) C dX5_tell_83 (by decide) (fun c83 => ?_) (fun c83 => absurd c83 (by decide))
            refine v_bipush (v := (-4)) C dX5_tell_99 (by decide) ?_
            refine v_iret C hr dX5_tell_101 (Nat.le_of_ble_eq_true rfl) (Nat.le_of_ble_eq_true rfl) ?_
            exact ⟨_, rfl, Or.inr (Or.inr ⟨⟨c4, by omega, by omega⟩, e2, Or.inl ⟨Or.inl (by omega), rfl, rfl⟩⟩)⟩
      · rw [fa_le, ti_g] at c14
        refine v_bipush (v := (-2)) C dX5_tell_17 (by decide) ?_
        refine v_iret C hr dX5_tell_19 (Nat.le_of_ble_eq_true rfl) (Nat.le_of_ble_eq_true rfl) ?_
        exact ⟨_, rfl, Or.inl ⟨fun h => by first | exact c4 h.1 | omega, rfl, rfl⟩⟩
