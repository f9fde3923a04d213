section VN
variable {p : Program} {l : Launch} {e : Env} {R : Room} {s : State} {m : MethodId} {args : Array Value} {below : List Frame} {meth : Method} {c : Code} {cells slots : Nat} {Q : State → Prop}
variable {cc : ByteArray} {nL : Nat} {E : gE} {zw : va_W} {pc : Nat} {lv : List (Nat × Value)} {rest : List Value} {Ts : List Cond} {own : String}
theorem vo_new (C : gC p s m args meth c E cc nL Ts own) {qn : Nat} (hqn : zw.length = qn) {Cn : String} {T : u_T} {N index : Nat} (ci : Nat) (fs : List Value) (hin : ∀ x ∈ u_ws Cn T N, x ∈ Ts) (ty : Nat → FieldType) (hty : ∀ k, k < N → parseFieldDescriptor (T k).2.2.1 = some (ty k)) (hcl : Cond.classLink own index Cn ∈ Ts) (hinst : Cond.instantiable Cn N ∈ Ts) (hini : Cond.initialized Cn ∈ Ts) (hc : vwCl[ci]? = some (Cn, T, N)) (hfs : ∀ j, j < N → defaultValue (ty j) = vp_V fs j) (hcells : cells + 1 ≤ R.cells) (hslots : slots + N ≤ R.slots) (hdg : decode cc pc = .ok (.new index, 3)) (kk : ∀ (q : Nat) (w1 : va_W), w1[qn]? = some (q, .inr (ci, fs)) → w1.length = qn + 1 → (∀ k, k < qn → w1[k]? = zw[k]?) → V p l e R s m args below meth c E nL w1 (cells + 1) (slots + N) Q (pc + 3) lv (.ref q :: rest)) : V p l e R s m args below meth c E nL zw cells slots Q pc lv rest := by
  subst hqn
  exact v_new C ci fs hin ty hty hcl hinst hini hc hfs hcells hslots hdg (fun q => kk q _ (app_e zw _) (by rw [List.length_append]; rfl) (fun k hk => List.getElem?_append_left hk))
theorem vo_newi (C : gC p s m args meth c E cc nL Ts own) {qn : Nat} (hqn : zw.length = qn) {n : Int32} (N : Nat) (harr : Cond.arrayClass .int ∈ Ts) (hn : ¬ n < 0) (hN : n.toNatClampNeg = N) (hb : N * 4 ≤ 536870912) (hcells : cells + 1 ≤ R.cells) (hslots : slots + N ≤ R.slots) (hdg : decode cc pc = .ok (.newarray .int, 2)) (kk : ∀ (q : Nat) (w1 : va_W), w1[qn]? = some (q, .inl (gI E, N, .inl (fun _ => 0))) → w1.length = qn + 1 → (∀ k, k < qn → w1[k]? = zw[k]?) → V p l e R s m args below meth c E nL w1 (cells + 1) (slots + N) Q (pc + 2) lv (.ref q :: rest)) : V p l e R s m args below meth c E nL zw cells slots Q pc lv (.int n :: rest) := by
  subst hqn
  exact v_newi C N harr hn hN hb hcells hslots hdg (fun q => kk q _ (app_e zw _) (by rw [List.length_append]; rfl) (fun k hk => List.getElem?_append_left hk))
theorem vo_newz (C : gC p s m args meth c E cc nL Ts own) {qn : Nat} (hqn : zw.length = qn) {n : Int32} (N : Nat) (harr : Cond.arrayClass .boolean ∈ Ts) (hn : ¬ n < 0) (hN : n.toNatClampNeg = N) (hb : N * 1 ≤ 536870912) (hcells : cells + 1 ≤ R.cells) (hslots : slots + N ≤ R.slots) (hdg : decode cc pc = .ok (.newarray .boolean, 2)) (kk : ∀ (q : Nat) (w1 : va_W), w1[qn]? = some (q, .inl (gZ E, N, .inl (fun _ => 0))) → w1.length = qn + 1 → (∀ k, k < qn → w1[k]? = zw[k]?) → V p l e R s m args below meth c E nL w1 (cells + 1) (slots + N) Q (pc + 2) lv (.ref q :: rest)) : V p l e R s m args below meth c E nL zw cells slots Q pc lv (.int n :: rest) := by
  subst hqn
  exact v_newz C N harr hn hN hb hcells hslots hdg (fun q => kk q _ (app_e zw _) (by rw [List.length_append]; rfl) (fun k hk => List.getElem?_append_left hk))
end VN
theorem CL.keepL {E : gE} {zw w1 : va_W} {q ci a n qe : Nat} {G : Nat → List Value} {pl : Nat → Nat} (h : CL E zw q ci a n G qe pl) (hF : ∀ k, k < zw.length → w1[k]? = zw[k]?) : CL E w1 q ci a n G qe pl := by
  obtain ⟨mo, ea, f, z1, z2, z3, z4⟩ := h
  refine ⟨mo, ea, f, (hF q (at_lt z1)).trans z1, ?_, fun i hi => ?_, z4⟩
  · rcases z2 with z2 | ⟨h5, cap, h6, h7⟩
    · exact Or.inl z2
    · exact Or.inr ⟨h5, cap, (hF qe (at_lt h6)).trans h6, h7⟩
  · obtain ⟨yi, x1, x2, x3⟩ := z3 i hi
    exact ⟨yi, x1, (hF _ (at_lt x2)).trans x2, x3⟩
theorem CL.lt {E : gE} {zw : va_W} {q ci a n qe : Nat} {G : Nat → List Value} {pl : Nat → Nat} (h : CL E zw q ci a n G qe pl) {i : Nat} (hi : i < n) : pl i < zw.length := by
  obtain ⟨mo, ea, f, z1, z2, z3, z4⟩ := h
  obtain ⟨yi, x1, x2, x3⟩ := z3 i hi
  exact at_lt x2
theorem CL.qlt {E : gE} {zw : va_W} {q ci a n qe : Nat} {G : Nat → List Value} {pl : Nat → Nat} (h : CL E zw q ci a n G qe pl) (hw : 0 < zw.length) : qe < zw.length := by
  obtain ⟨mo, ea, f, z1, z2, z3, z4⟩ := h
  rcases z2 with ⟨-, -, rfl⟩ | ⟨h5, cap, h6, h7⟩
  · exact hw
  · exact at_lt h6
/-- another list's row and objects are not touched by an add -/
theorem CL.fr {E : gE} {zw w1 : va_W} {q ci a n qe : Nat} {G : Nat → List Value} {pl : Nat → Nat} {q2 ci2 a2 n2 qe2 : Nat} {G2 : Nat → List Value} {pl2 : Nat → Nat} (h : CL E zw q ci a n G qe pl) (h2 : CL E zw q2 ci2 a2 n2 G2 qe2 pl2) (hq : q < 31) (hq2 : q2 < 31) (hne : q2 ≠ q) (hQ : qe2 = qe → qe2 = 0) (hF : ∀ k, k < zw.length → k ≠ q → (k ≠ qe ∨ k < 31) → w1[k]? = zw[k]?) : CL E w1 q2 ci2 a2 n2 G2 qe2 pl2 := by
  obtain ⟨mo, ea, f, h1, hh2, h3, h4⟩ := h
  obtain ⟨mo2, ea2, f2, y1, y2, y3, y4⟩ := h2
  refine ⟨mo2, ea2, f2, (hF q2 (at_lt y1) hne (Or.inr hq2)).trans y1, ?_, fun i hi => ?_, y4⟩
  · rcases y2 with y2 | ⟨z5, cap, z6, z7⟩
    · exact Or.inl y2
    · exact Or.inr ⟨z5, cap, (hF qe2 (at_lt z6) (by omega) (Or.inl (fun e => by have := hQ e; omega))).trans z6, z7⟩
  · obtain ⟨yi, x1, x2, x3⟩ := y3 i hi
    refine ⟨yi, x1, (hF _ (at_lt x2) (by omega) (Or.inl (fun e => ?_))).trans x2, x3⟩
    rcases hh2 with ⟨-, -, h0⟩ | ⟨z5, cap, z6, z7⟩
    · omega
    · rw [e, z6] at x2
      cases x2
theorem CL.add9 {E : gE} {w1 : va_W} {q ci a n qe1 ea1 ky y : Nat} {mo1 : Int32} {G : Nat → List Value} {pl : Nat → Nat} {vs : List Value} {f f1 : Nat → Option Nat} (k1 : w1[q]? = some (a, .inr (0, [.int mo1, .ref ea1, .int (nI (n + 1))]))) (k2 : LSt E w1 ea1 (n + 1) f1 qe1) (k3 : 31 ≤ qe1) (k4 : f1 n = some y) (k5 : ∀ j, j < n → f1 j = f j) (hv : w1[ky]? = some (y, .inr (ci, vs))) (hky : 31 ≤ ky) (h3 : ∀ i, i < n → ∃ y : Nat, f i = some y ∧ w1[pl i]? = some (y, .inr (ci, G i)) ∧ 31 ≤ pl i) (h4 : ∀ i j, i < n → j < n → pl i = pl j → i = j) (hne : ∀ i, i < n → pl i ≠ ky) : CL E w1 q ci a (n + 1) (va_up G n vs) qe1 (va_up pl n ky) := by
  refine ⟨mo1, ea1, f1, k1, ?_, fun i hi => ?_, fun i j hi hj he => ?_⟩
  · rcases k2 with ⟨-, h0⟩ | ⟨cap, h6, h7⟩
    · omega
    · exact Or.inr ⟨k3, cap, h6, h7⟩
  · rcases Nat.lt_or_ge i n with z | z
    · obtain ⟨yi, x1, x2, x3⟩ := h3 i z
      rw [va_up_ne _ _ (Nat.ne_of_lt z), va_up_ne _ _ (Nat.ne_of_lt z)]
      exact ⟨yi, (k5 i z).trans x1, x2, x3⟩
    · obtain rfl : i = n := by omega
      rw [va_up_self, va_up_self]
      exact ⟨y, k4, hv, hky⟩
  · rcases Nat.lt_or_ge i n with z | z
    · rw [va_up_ne _ _ (Nat.ne_of_lt z)] at he
      rcases Nat.lt_or_ge j n with z2 | z2
      · rw [va_up_ne _ _ (Nat.ne_of_lt z2)] at he
        exact h4 i j z z2 he
      · obtain rfl : j = n := by omega
        rw [va_up_self] at he
        exact absurd he (hne i z)
    · obtain rfl : i = n := by omega
      rw [va_up_self] at he
      rcases Nat.lt_or_ge j i with z2 | z2
      · rw [va_up_ne _ _ (Nat.ne_of_lt z2)] at he
        exact absurd he.symm (hne j z2)
      · omega
theorem CL.add (l : Launch) {E : gE} {zw : va_W} {q ci a n qe : Nat} {G : Nat → List Value} {pl : Nat → Nat} (h : CL E zw q ci a n G qe pl) (hq : q < 31) (h31 : 31 ≤ zw.length) (hn2 : n < 2000) {r9 : vw_C} (hc9 : vwCl[ci]? = some r9) (hca : r9.1 ∈ gNc) (hci0 : ci ≠ 0) {ky y : Nat} {vs : List Value} (hv : zw[ky]? = some (y, .inr (ci, vs))) (hky : 31 ≤ ky) (hne : ∀ i, i < n → pl i ≠ ky) : CtI l yJx4a65c_add_9ea2d wsJx4a65c_add_9ea2d ({ frames := 6, cells := 1, slots := 3000, locals := 150 }) E [.ref a, .ref y] zw (fun r w1 => ∃ qe1 : Nat, CL E w1 q ci a (n + 1) (va_up G n vs) qe1 (va_up pl n ky) ∧ (qe1 = qe ∨ qe1 = zw.length) ∧ 31 ≤ qe1 ∧ zw.length ≤ w1.length ∧ (∀ k, k < zw.length → k ≠ q → (k ≠ qe ∨ k < 31) → w1[k]? = zw[k]?)) 1 3000 := by
  obtain ⟨mo, ea, f, h1, h2, h3, h4⟩ := h
  have hel : ∀ i y : Nat, i < n → f i = some y → ∃ (k : Nat) (fs : List Value), zw[k]? = some (y, .inr (ci, fs)) := fun i y hi hf => by
    obtain ⟨y2, z1, z2, z3⟩ := h3 i hi
    rw [z1] at hf
    obtain rfl := Option.some.inj hf
    exact ⟨_, _, z2⟩
  have hql := at_lt h1
  rcases h2 with ⟨e1, e2, e3⟩ | ⟨h5, cap, h6, h7⟩
  · refine Ct.mono (c_Jx4a65c_add_9ea2d l E zw h1 (qe := zw.length) hc9 hca hel (Or.inl ⟨e1, e2⟩) (by omega) hn2 hv (by omega) hci0) (fun v w1 hp => ?_)
    obtain ⟨r, rfl, ea1, qe1, f1, k1, k2, k3, k4, k5, k6, k7⟩ := hp
    have k3 : qe1 = zw.length := by omega
    have hF : ∀ k, k < zw.length → k ≠ q → w1[k]? = zw[k]? := fun k z1 z2 => k7 k z1 z2 (by omega)
    exact ⟨r, rfl, qe1, CL.add9 k1 k2 (by omega) k4 k5 ((hF ky (at_lt hv) (by omega)).trans hv) hky (fun i hi => absurd hi (by omega)) h4 hne, Or.inr k3, by omega, k6, fun k z1 z2 _ => hF k z1 z2⟩
  · refine Ct.mono (c_Jx4a65c_add_9ea2d l E zw h1 (qe := qe) hc9 hca hel (Or.inr ⟨cap, h6, h7⟩) (by omega) hn2 hv (by omega) hci0) (fun v w1 hp => ?_)
    obtain ⟨r, rfl, ea1, qe1, f1, k1, k2, k3, k4, k5, k6, k7⟩ := hp
    have hky2 : ky ≠ qe := fun e => by
      rw [e, h6] at hv
      cases hv
    refine ⟨r, rfl, qe1, CL.add9 k1 k2 (by omega) k4 k5 ((k7 ky (at_lt hv) (by omega) hky2).trans hv) hky (fun i hi => ?_) h4 hne, k3, by omega, k6, fun k z1 z2 z3 => k7 k z1 z2 (by omega)⟩
    obtain ⟨y2, z1, z2, z3⟩ := h3 i hi
    refine ⟨y2, z1, (k7 _ (at_lt z2) (by omega) (fun e => ?_)).trans z2, z3⟩
    rw [e, h6] at z2
    cases z2
theorem CF.keepL {E : gE} {ca : Nat → Nat} {zw w1 : va_W} {t : Int32} {ar : Nat → Nat → Int32} {dr ch : Nat → Int32} {ns np na : Nat} {qe : Nat → Nat} {pl : Nat → Nat → Nat} (h : CF E ca zw t ar dr ch ns np na qe pl) {qn : Nat} (hqn : zw.length = qn) (hF : ∀ k, k < qn → w1[k]? = zw[k]?) : CF E ca w1 t ar dr ch ns np na qe pl := by
  subst hqn
  obtain ⟨z0, z4, z5, z6, z7, z1, z2, z3⟩ := h
  exact ⟨(hF 0 (at_lt z0)).trans z0, (hF 4 (at_lt z4)).trans z4, (hF 5 (at_lt z5)).trans z5, (hF 6 (at_lt z6)).trans z6, (hF 7 (at_lt z7)).trans z7, z1.keepL hF, z2.keepL hF, z3.keepL hF⟩
/-- no two lists share a row -/
def CQ (qe : Nat → Nat) : Prop := (qe 1 = qe 2 → qe 1 = 0) ∧ (qe 1 = qe 3 → qe 1 = 0) ∧ (qe 2 = qe 3 → qe 2 = 0)
theorem and1 (x : Int32) : x &&& 1 = 0 ∨ x &&& 1 = 1 := by
  have h : (x &&& 1).toBitVec = x.toBitVec &&& 1#32 := rfl
  have h2 : x.toBitVec &&& 1#32 = 0#32 ∨ x.toBitVec &&& 1#32 = 1#32 := by
    have h3 : (x.toBitVec &&& 1#32).toNat = x.toBitVec.toNat % 2 := by
      rw [BitVec.toNat_and]
      exact Nat.and_one_is_mod _
    rcases Nat.mod_two_eq_zero_or_one x.toBitVec.toNat with q | q
    · exact Or.inl (BitVec.eq_of_toNat_eq (by rw [h3, q]; rfl))
    · exact Or.inr (BitVec.eq_of_toNat_eq (by rw [h3, q]; rfl))
  rcases h2 with q | q
  · exact Or.inl (Int32.toBitVec_inj.mp (by rw [h, q]; rfl))
  · exact Or.inr (Int32.toBitVec_inj.mp (by rw [h, q]; rfl))
theorem and1_n0 {x : Int32} (h : x &&& 1 = 1) : ¬ x &&& 1 = 0 := fun e => by
  rw [e] at h
  exact absurd h (by decide)
theorem and1_n1 {x : Int32} (h : ¬ x &&& 1 = 1) : x &&& 1 = 0 := (and1 x).resolve_right h
theorem askF_new (ar : Nat → Nat → Int32) (na : Nat) (x y z : Int32) : askF (va_up (va_up (va_up (va_up ar 18 (upd (ar 18) na x)) 19 (upd (ar 19) na y)) 20 (upd (ar 20) na z)) 21 (upd (ar 21) na 0)) na = [.int x, .int (dgs x 6), .int y, .int z, .int 0] := by
  show [Value.int (upd (ar 18) na x na), .int (dgs (upd (ar 18) na x na) 6), .int (upd (ar 19) na y na), .int (upd (ar 20) na z na), .int (upd (ar 21) na 0 na)] = _
  rw [pk_us, pk_us, pk_us, pk_us]
theorem askF_old (ar : Nat → Nat → Int32) {na i : Nat} (h : i ≠ na) (x y z : Int32) : askF (va_up (va_up (va_up (va_up ar 18 (upd (ar 18) na x)) 19 (upd (ar 19) na y)) 20 (upd (ar 20) na z)) 21 (upd (ar 21) na 0)) i = askF ar i := by
  show [Value.int (upd (ar 18) na x i), .int (dgs (upd (ar 18) na x i) 6), .int (upd (ar 19) na y i), .int (upd (ar 20) na z i), .int (upd (ar 21) na 0 i)] = _
  rw [pk_un h, pk_un h, pk_un h, pk_un h]
  rfl
/-- the class's cells behind an added asking -/
theorem CF.addA {E : gE} {ca : Nat → Nat} {zw w1 : va_W} {t : Int32} {ar : Nat → Nat → Int32} {dr ch : Nat → Int32} {ns np na : Nat} {qe : Nat → Nat} {pl : Nat → Nat → Nat} (h : CF E ca zw t ar dr ch ns np na qe pl) (hQ : CQ qe) (h31 : 31 ≤ zw.length) {x y z : Int32} {qn qe1 : Nat} (k1 : CL E w1 3 1 (ca 3) (na + 1) (va_up (askF ar) na [.int x, .int (dgs x 6), .int y, .int z, .int 0]) qe1 (va_up (pl 3) na qn)) (k2 : qe1 = qe 3 ∨ qe1 = zw.length) (k3 : 31 ≤ qe1) (k4 : zw.length ≤ w1.length) (k5 : ∀ k, k < zw.length → k ≠ 3 → (k ≠ qe 3 ∨ k < 31) → w1[k]? = zw[k]?) : CF E ca w1 t (va_up (va_up (va_up (va_up ar 18 (upd (ar 18) na x)) 19 (upd (ar 19) na y)) 20 (upd (ar 20) na z)) 21 (upd (ar 21) na 0)) dr ch ns np (na + 1) (va_up qe 3 qe1) (va_up pl 3 (va_up (pl 3) na qn)) ∧ CQ (va_up qe 3 qe1) := by
  obtain ⟨z0, z4, z5, z6, z7, z1, z2, z3⟩ := h
  have q1 := z1.qlt (by omega)
  have q2 := z2.qlt (by omega)
  refine ⟨⟨(k5 0 (at_lt z0) (by decide) (Or.inr (by decide))).trans z0, (k5 4 (at_lt z4) (by decide) (Or.inr (by decide))).trans z4, (k5 5 (at_lt z5) (by decide) (Or.inr (by decide))).trans z5, (k5 6 (at_lt z6) (by decide) (Or.inr (by decide))).trans z6, (k5 7 (at_lt z7) (by decide) (Or.inr (by decide))).trans z7, z3.fr z1 (by decide) (by decide) (by decide) hQ.2.1 k5, z3.fr z2 (by decide) (by decide) (by decide) hQ.2.2 k5, ?_⟩, ?_⟩
  · refine CL.congr (G := va_up (askF ar) na [.int x, .int (dgs x 6), .int y, .int z, .int 0]) k1 (fun i hi => ?_)
    rcases Nat.lt_or_ge i na with q | q
    · rw [va_up_ne _ _ (Nat.ne_of_lt q)]
      exact askF_old ar (Nat.ne_of_lt q) x y z
    · obtain rfl : i = na := by omega
      rw [va_up_self]
      exact askF_new ar i x y z
  · refine ⟨hQ.1, fun e => ?_, fun e => ?_⟩
    · have e : qe 1 = qe1 := e
      show qe 1 = 0
      rcases k2 with k2 | k2
      · exact hQ.2.1 (by omega)
      · omega
    · have e : qe 2 = qe1 := e
      show qe 2 = 0
      rcases k2 with k2 | k2
      · exact hQ.2.2 (by omega)
      · omega
theorem inX5_ask_X5 : ∀ x ∈ wsX50, x ∈ wsX5_ask := by decide +kernel
theorem kwX5_ask_19 : Cond.fieldLink RX5 19 "SeriesMarks" "askings" "Ljava/util/ArrayList;" ∈ wsX5_ask := by decide +kernel
theorem inX5_ask_X0 : ∀ x ∈ wsX00, x ∈ wsX5_ask := by decide +kernel
theorem kwX5_ask_cl178 : Cond.classLink RX5 178 RX0 ∈ wsX5_ask := by decide +kernel
theorem kwX5_ask_insX0 : Cond.instantiable RX0 5 ∈ wsX5_ask := by decide +kernel
theorem kwX5_ask_iniX0 : Cond.initialized RX0 ∈ wsX5_ask := by decide +kernel
theorem kwX5_ask_ml180 : Cond.methodLink RX5 180 yX0_init ∈ wsX5_ask := by decide +kernel
theorem kwX5_ask_imX0_init : Cond.instanceMethod yX0_init ∈ wsX5_ask := by decide +kernel
set_option maxHeartbeats 4000000 in
set_option maxRecDepth 100000 in
theorem c_X5_ask (l : Launch) (E : gE) (zw : va_W) {ca : Nat → Nat} {t0 : Int32} {ar : Nat → Nat → Int32} {dr ch : Nat → Int32} {ns np na : Nat} {qe : Nat → Nat} {pl : Nat → Nat → Nat} (hC : CF E ca zw t0 ar dr ch ns np na qe pl) (hb : ns ≤ 120 ∧ np ≤ 2000 ∧ na ≤ 10) (hQ : CQ qe) (h31 : 31 ≤ zw.length) (mks mk v : Int32) : CtI l yX5_ask wsX5_ask ({ frames := 7, cells := 2, slots := 3005, locals := 171 }) E [.ref (ca 0), .int mks, .int mk, .int v] zw (fun r w1 => ((((0 ≤ mks.toInt ∧ mks.toInt ≤ 63) ∧ (mk = (-9) ∨ ((0 ≤ mk.toInt ∧ mk.toInt ≤ 5) ∧ 0 ≤ v.toInt ∧ v.toInt ≤ 7) ∧ ¬ (mks >>> (mk &&& 31)) &&& 1 = 0) ∧ na < 10) ∧ r = nI na ∧ ∃ (qe1 : Nat → Nat) (pl1 : Nat → Nat → Nat), CF E ca w1 t0 (va_up (va_up (va_up (va_up ar 18 (upd (ar 18) na mks)) 19 (upd (ar 19) na mk)) 20 (upd (ar 20) na (if mk = (-9) then 0 else v))) 21 (upd (ar 21) na 0)) dr ch ns np (na + 1) qe1 pl1 ∧ CQ qe1 ∧ gFr zw w1) ∨ (¬ ((0 ≤ mks.toInt ∧ mks.toInt ≤ 63) ∧ (mk = (-9) ∨ ((0 ≤ mk.toInt ∧ mk.toInt ≤ 5) ∧ 0 ≤ v.toInt ∧ v.toInt ≤ 7) ∧ ¬ (mks >>> (mk &&& 31)) &&& 1 = 0) ∧ na < 10) ∧ zw = w1 ∧ r = (if 0 ≤ mks.toInt ∧ mks.toInt ≤ 63 then (if mk = (-9) ∨ ((0 ≤ mk.toInt ∧ mk.toInt ≤ 5) ∧ 0 ≤ v.toInt ∧ v.toInt ≤ 7) then (if mk = (-9) ∨ ¬ (mks >>> (mk &&& 31)) &&& 1 = 0 then (-4) else (-3)) else (-1)) else (-2))))) 2 3005 := by
  refine Ct.of (cc := cX5_ask) (nL := 5) (ret := (some .int)) (by decide) rfl (Nat.le_of_ble_eq_true rfl) ?_
  intro p e s m args below meth c C hr hnm
  refine v_eqlv (lv9 := [(0, .ref (ca 0)), (1, .int mks), (2, .int mk), (3, .int v)]) rfl ?_
  obtain ⟨hX, h4, h5, h6, h7, hL1, hL2, hL3⟩ := id hC
  obtain ⟨fs1, hq1⟩ := hL1.cell
  obtain ⟨fs2, hq2⟩ := hL2.cell
  obtain ⟨fs3, hq3⟩ := hL3.cell
  refine v_iload_n C dX5_ask_0 rfl rfl ?_
  refine v_callSi C (c_X5_isSetOfMarks l E zw _ ) (va_cwS 1 C.1.2.2.2.2 gX5_ask_X5_isSetOfMarks rfl rfl rfl (by decide +kernel) ⟨by decide, by decide⟩) rfl rfl (Nat.le_of_ble_eq_true rfl) dX5_ask_1 ⟨Nat.le_of_ble_eq_true rfl, Nat.le_of_ble_eq_true rfl⟩ (fun r w1 hp => ?_)
  obtain ⟨rfl, hr9⟩ := hp
  rw [hr9]
  clear hr9
  refine v_if_ne (tgt := 10) C dX5_ask_4 (by decide) (fun c4 => ?_) (fun c4 => ?_)
  · have c4 := b01_n c4
    refine v_iload_n C dX5_ask_10 rfl rfl ?_
    refine v_bipush (v := (-9)) C dX5_ask_11 (by decide) ?_
    refine v_icmp_eq (tgt := 20) C dX5_ask_13 (by decide) (fun c13 => ?_) (fun c13 => ?_)
    · refine v_iconst (v := 0) C dX5_ask_20 (by decide) ?_
      refine v_istore C dX5_ask_21 (by decide) rfl ?_
      refine v_iload C dX5_ask_23 rfl ?_
      refine v_if_eq (tgt := 44) C dX5_ask_25 (by decide) (fun c25 => ?_) (fun c25 => absurd rfl c25)
      refine v_iload C dX5_ask_44 rfl ?_
      refine v_if_eq (tgt := 60) C dX5_ask_46 (by decide) (fun c46 => ?_) (fun c46 => absurd rfl c46)
      refine v_aload_n C dX5_ask_60 rfl rfl ?_
      refine v_get (v := .ref (ca 3)) C inX5_ask_X5 0 hX rfl 3 (by decide) kwX5_ask_19 rfl rfl dX5_ask_61 ?_
      refine v_callVi C (hL3.size l) (cwV 0 C.1.2.2.2.2 gX5_ask_Jx4a65c_size_8abf5 rfl rfl rfl (by decide +kernel) ⟨by decide, by decide⟩) 3 0 hq3 rfl rfl rfl (Nat.le_of_ble_eq_true rfl) dX5_ask_64 ⟨Nat.le_of_ble_eq_true rfl, Nat.le_of_ble_eq_true rfl⟩ (fun r w1 hp => ?_)
      obtain ⟨rfl, rfl⟩ := hp
      refine v_at (pc9 := 67) rfl ?_
      refine v_bipush (v := 10) C dX5_ask_67 (by decide) ?_
      refine v_icmp_lt (tgt := 75) C dX5_ask_69 (by decide) (fun c69 => ?_) (fun c69 => ?_)
      · rw [fa_lt, ti_10, nI_toInt (by omega)] at c69
        refine v_aload_n C dX5_ask_75 rfl rfl ?_
        refine v_get (v := .ref (ca 3)) C inX5_ask_X5 0 hX rfl 3 (by decide) kwX5_ask_19 rfl rfl dX5_ask_76 ?_
        refine v_iload C dX5_ask_79 rfl ?_
        refine v_if_eq (tgt := 97) C dX5_ask_81 (by decide) (fun c81 => ?_) (fun c81 => absurd rfl c81)
        have hC0 := hC
        obtain ⟨qn, hqn⟩ : ∃ q9 : Nat, zw.length = q9 := ⟨_, rfl⟩
        refine vo_new C hqn 1 [.int 0, .int 0, .int 0, .int 0, .int 0] inX5_ask_X0 tyX0 tyX0_ok kwX5_ask_cl178 kwX5_ask_insX0 kwX5_ask_iniX0 rfl (fun j hj => by rcases (show j = 0 ∨ j = 1 ∨ j = 2 ∨ j = 3 ∨ j = 4 by omega) with rfl | rfl | rfl | rfl | rfl <;> rfl) (Nat.le_of_ble_eq_true rfl) (Nat.le_of_ble_eq_true rfl) dX5_ask_97 (fun ya zw hn1 hn2 hn3 => ?_)
        have hL30 := hL3
        refine v_dup C dX5_ask_100 rfl ?_
        refine v_iload_n C dX5_ask_101 rfl rfl ?_
        refine v_bipush (v := (-9)) C dX5_ask_102 (by decide) ?_
        refine v_iconst (v := 0) C dX5_ask_104 (by decide) ?_
        refine v_at (pc9 := 105) rfl ?_
        refine v_callIu C (c_X0_init l E zw hn1 _ _ _) (cwI 3 C.1.2.2.2.2 gX5_ask_X0_init rfl rfl rfl (C.1.2.2.2.2 _ kwX5_ask_iniX0) (C.1.2.2.2.2 _ kwX5_ask_ml180) (C.1.2.2.2.2 _ kwX5_ask_imX0_init) rfl (by decide +kernel) ⟨by decide, by decide⟩) rfl rfl (Nat.le_of_ble_eq_true rfl) dX5_ask_105 ⟨Nat.le_of_ble_eq_true rfl, Nat.le_of_ble_eq_true rfl⟩ (fun zw hp => ?_)
        obtain ⟨hn1, hO⟩ := hp
        have hl9 : zw.length = qn + 1 := hO.1.trans hn2
        have hn3 := fun k (hk : k < qn) => (hO.2 k (Nat.ne_of_lt hk)).trans (hn3 k hk)
        have hC := hC0.keepL hqn hn3
        obtain ⟨hX, h4, h5, h6, h7, hL1, hL2, hL3⟩ := id hC
        obtain ⟨fs1, hq1⟩ := hL1.cell
        obtain ⟨fs2, hq2⟩ := hL2.cell
        obtain ⟨fs3, hq3⟩ := hL3.cell
        refine v_callVi C (CL.add l hL3 (by decide) (by omega) (by omega) (ci := 1) rfl (by decide) (by decide) hn1 (by omega) (fun i hi => Nat.ne_of_lt (by have := hL30.lt hi; omega))) (cwV 1 C.1.2.2.2.2 gX5_ask_Jx4a65c_add_9ea2d rfl rfl rfl (by decide +kernel) ⟨by decide, by decide⟩) 3 0 hq3 rfl rfl rfl (Nat.le_of_ble_eq_true rfl) dX5_ask_108 ⟨Nat.le_of_ble_eq_true rfl, Nat.le_of_ble_eq_true rfl⟩ (fun r zw hp => ?_)
        obtain ⟨qe1, k1, k2, k3, k4, k5⟩ := hp
        have hX0 := hX
        have hX := (k5 0 (by omega) (by decide) (Or.inr (by decide))).trans hX
        obtain ⟨fs9, hq9⟩ := k1.cell
        obtain ⟨hCF, hQ1⟩ := hC.addA hQ (by omega) k1 k2 k3 k4 k5
        refine v_pop C dX5_ask_111 rfl ?_
        refine v_aload_n C dX5_ask_112 rfl rfl ?_
        refine v_get (v := .ref (ca 3)) C inX5_ask_X5 0 hX rfl 3 (by decide) kwX5_ask_19 rfl rfl dX5_ask_113 ?_
        refine v_callVi C (k1.size l) (cwV 0 C.1.2.2.2.2 gX5_ask_Jx4a65c_size_8abf5 rfl rfl rfl (by decide +kernel) ⟨by decide, by decide⟩) 3 0 hq9 rfl rfl rfl (Nat.le_of_ble_eq_true rfl) dX5_ask_116 ⟨Nat.le_of_ble_eq_true rfl, Nat.le_of_ble_eq_true rfl⟩ (fun r w1 hp => ?_)
        obtain ⟨rfl, rfl⟩ := hp
        refine v_iconst (v := 1) C dX5_ask_119 (by decide) ?_
        refine v_isub C dX5_ask_120 ?_
        refine v_tov (y := nI na) (by rw [show (1 : Int32) = nI 1 from rfl, pk_sub (by omega), Nat.add_sub_cancel]) ?_
        refine v_iret C hr dX5_ask_121 (Nat.le_of_ble_eq_true rfl) (Nat.le_of_ble_eq_true rfl) ?_
        exact ⟨_, rfl, Or.inl ⟨⟨c4, Or.inl c13, by omega⟩, rfl, va_up qe 3 qe1, va_up pl 3 (va_up (pl 3) na qn), by rw [if_pos c13, c13]; exact hCF, hQ1, by omega, fun k z1 z2 => (k5 k (by omega) (by omega) (Or.inr z2)).trans (hn3 k (by omega))⟩⟩
      · rw [fa_lt, ti_10, nI_toInt (by omega)] at c69
        refine v_bipush (v := (-4)) C dX5_ask_72 (by decide) ?_
        refine v_iret C hr dX5_ask_74 (Nat.le_of_ble_eq_true rfl) (Nat.le_of_ble_eq_true rfl) ?_
        exact ⟨_, rfl, Or.inr ⟨fun h => by have := h.2.2; omega, rfl, by rw [if_pos c4, if_pos (Or.inl c13), if_pos (Or.inl c13)]⟩⟩
    · refine v_iconst (v := 1) C dX5_ask_16 (by decide) ?_
      refine v_goto (tgt := 21) C dX5_ask_17 (by decide) ?_
      refine v_istore C dX5_ask_21 (by decide) rfl ?_
      refine v_iload C dX5_ask_23 rfl ?_
      refine v_if_eq (tgt := 44) C dX5_ask_25 (by decide) (fun c25 => absurd c25 (by decide)) (fun c25 => ?_)
      refine v_iload_n C dX5_ask_28 rfl rfl ?_
      refine v_callSi C (c_X5_isMark l E zw _ ) (va_cwS 1 C.1.2.2.2.2 gX5_ask_X5_isMark rfl rfl rfl (by decide +kernel) ⟨by decide, by decide⟩) rfl rfl (Nat.le_of_ble_eq_true rfl) dX5_ask_29 ⟨Nat.le_of_ble_eq_true rfl, Nat.le_of_ble_eq_true rfl⟩ (fun r w1 hp => ?_)
      obtain ⟨rfl, hr9⟩ := hp
      rw [hr9]
      clear hr9
      refine v_if_eq (tgt := 42) C dX5_ask_32 (by decide) (fun c32 => ?_) (fun c32 => ?_)
      · have c32 := b01_0 c32
        refine v_iconst (v := (-1)) C dX5_ask_42 (by decide) ?_
        refine v_iret C hr dX5_ask_43 (Nat.le_of_ble_eq_true rfl) (Nat.le_of_ble_eq_true rfl) ?_
        exact ⟨_, rfl, Or.inr ⟨fun h => h.2.1.elim c13 (fun h => by first | exact c32 h.1.1 | exact c39 h.1.2), rfl, by rw [if_pos c4, if_neg (fun h => h.elim c13 (fun h => by first | exact c32 h.1 | exact c39 h.2))]⟩⟩
      · have c32 := b01_n c32
        refine v_iload_n C dX5_ask_35 rfl rfl ?_
        refine v_callSi C (c_X5_isValue l E zw _ ) (va_cwS 1 C.1.2.2.2.2 gX5_ask_X5_isValue rfl rfl rfl (by decide +kernel) ⟨by decide, by decide⟩) rfl rfl (Nat.le_of_ble_eq_true rfl) dX5_ask_36 ⟨Nat.le_of_ble_eq_true rfl, Nat.le_of_ble_eq_true rfl⟩ (fun r w1 hp => ?_)
        obtain ⟨rfl, hr9⟩ := hp
        rw [hr9]
        clear hr9
        refine v_if_ne (tgt := 44) C dX5_ask_39 (by decide) (fun c39 => ?_) (fun c39 => ?_)
        · have c39 := b01_n c39
          refine v_iload C dX5_ask_44 rfl ?_
          refine v_if_eq (tgt := 60) C dX5_ask_46 (by decide) (fun c46 => absurd c46 (by decide)) (fun c46 => ?_)
          refine v_iload_n C dX5_ask_49 rfl rfl ?_
          refine v_iload_n C dX5_ask_50 rfl rfl ?_
          refine v_callSi C (c_X5_hasBit l E zw _ _ ) (va_cwS 2 C.1.2.2.2.2 gX5_ask_X5_hasBit rfl rfl rfl (by decide +kernel) ⟨by decide, by decide⟩) rfl rfl (Nat.le_of_ble_eq_true rfl) dX5_ask_51 ⟨Nat.le_of_ble_eq_true rfl, Nat.le_of_ble_eq_true rfl⟩ (fun r w1 hp => ?_)
          obtain ⟨rfl, hr9⟩ := hp
          rw [hr9]
          clear hr9
          refine v_if_ne (tgt := 60) C dX5_ask_54 (by decide) (fun c54 => ?_) (fun c54 => ?_)
          · have c54 := and1_n0 (b01_n c54)
            refine v_aload_n C dX5_ask_60 rfl rfl ?_
            refine v_get (v := .ref (ca 3)) C inX5_ask_X5 0 hX rfl 3 (by decide) kwX5_ask_19 rfl rfl dX5_ask_61 ?_
            refine v_callVi C (hL3.size l) (cwV 0 C.1.2.2.2.2 gX5_ask_Jx4a65c_size_8abf5 rfl rfl rfl (by decide +kernel) ⟨by decide, by decide⟩) 3 0 hq3 rfl rfl rfl (Nat.le_of_ble_eq_true rfl) dX5_ask_64 ⟨Nat.le_of_ble_eq_true rfl, Nat.le_of_ble_eq_true rfl⟩ (fun r w1 hp => ?_)
            obtain ⟨rfl, rfl⟩ := hp
            refine v_bipush (v := 10) C dX5_ask_67 (by decide) ?_
            refine v_icmp_lt (tgt := 75) C dX5_ask_69 (by decide) (fun c69 => ?_) (fun c69 => ?_)
            · rw [fa_lt, ti_10, nI_toInt (by omega)] at c69
              refine v_aload_n C dX5_ask_75 rfl rfl ?_
              refine v_get (v := .ref (ca 3)) C inX5_ask_X5 0 hX rfl 3 (by decide) kwX5_ask_19 rfl rfl dX5_ask_76 ?_
              refine v_iload C dX5_ask_79 rfl ?_
              refine v_if_eq (tgt := 97) C dX5_ask_81 (by decide) (fun c81 => absurd c81 (by decide)) (fun c81 => ?_)
              have hC0 := hC
              obtain ⟨qn, hqn⟩ : ∃ q9 : Nat, zw.length = q9 := ⟨_, rfl⟩
              refine vo_new C hqn 1 [.int 0, .int 0, .int 0, .int 0, .int 0] inX5_ask_X0 tyX0 tyX0_ok kwX5_ask_cl178 kwX5_ask_insX0 kwX5_ask_iniX0 rfl (fun j hj => by rcases (show j = 0 ∨ j = 1 ∨ j = 2 ∨ j = 3 ∨ j = 4 by omega) with rfl | rfl | rfl | rfl | rfl <;> rfl) (Nat.le_of_ble_eq_true rfl) (Nat.le_of_ble_eq_true rfl) dX5_ask_84 (fun ya zw hn1 hn2 hn3 => ?_)
              have hL30 := hL3
              refine v_dup C dX5_ask_87 rfl ?_
              refine v_iload_n C dX5_ask_88 rfl rfl ?_
              refine v_iload_n C dX5_ask_89 rfl rfl ?_
              refine v_iload_n C dX5_ask_90 rfl rfl ?_
              refine v_at (pc9 := 91) rfl ?_
              refine v_callIu C (c_X0_init l E zw hn1 _ _ _) (cwI 3 C.1.2.2.2.2 gX5_ask_X0_init rfl rfl rfl (C.1.2.2.2.2 _ kwX5_ask_iniX0) (C.1.2.2.2.2 _ kwX5_ask_ml180) (C.1.2.2.2.2 _ kwX5_ask_imX0_init) rfl (by decide +kernel) ⟨by decide, by decide⟩) rfl rfl (Nat.le_of_ble_eq_true rfl) dX5_ask_91 ⟨Nat.le_of_ble_eq_true rfl, Nat.le_of_ble_eq_true rfl⟩ (fun zw hp => ?_)
              obtain ⟨hn1, hO⟩ := hp
              have hl9 : zw.length = qn + 1 := hO.1.trans hn2
              have hn3 := fun k (hk : k < qn) => (hO.2 k (Nat.ne_of_lt hk)).trans (hn3 k hk)
              have hC := hC0.keepL hqn hn3
              obtain ⟨hX, h4, h5, h6, h7, hL1, hL2, hL3⟩ := id hC
              obtain ⟨fs1, hq1⟩ := hL1.cell
              obtain ⟨fs2, hq2⟩ := hL2.cell
              obtain ⟨fs3, hq3⟩ := hL3.cell
              refine v_goto (tgt := 108) C dX5_ask_94 (by decide) ?_
              refine v_callVi C (CL.add l hL3 (by decide) (by omega) (by omega) (ci := 1) rfl (by decide) (by decide) hn1 (by omega) (fun i hi => Nat.ne_of_lt (by have := hL30.lt hi; omega))) (cwV 1 C.1.2.2.2.2 gX5_ask_Jx4a65c_add_9ea2d rfl rfl rfl (by decide +kernel) ⟨by decide, by decide⟩) 3 0 hq3 rfl rfl rfl (Nat.le_of_ble_eq_true rfl) dX5_ask_108 ⟨Nat.le_of_ble_eq_true rfl, Nat.le_of_ble_eq_true rfl⟩ (fun r zw hp => ?_)
              obtain ⟨qe1, k1, k2, k3, k4, k5⟩ := hp
              have hX0 := hX
              have hX := (k5 0 (by omega) (by decide) (Or.inr (by decide))).trans hX
              obtain ⟨fs9, hq9⟩ := k1.cell
              obtain ⟨hCF, hQ1⟩ := hC.addA hQ (by omega) k1 k2 k3 k4 k5
              refine v_pop C dX5_ask_111 rfl ?_
              refine v_aload_n C dX5_ask_112 rfl rfl ?_
              refine v_get (v := .ref (ca 3)) C inX5_ask_X5 0 hX rfl 3 (by decide) kwX5_ask_19 rfl rfl dX5_ask_113 ?_
              refine v_callVi C (k1.size l) (cwV 0 C.1.2.2.2.2 gX5_ask_Jx4a65c_size_8abf5 rfl rfl rfl (by decide +kernel) ⟨by decide, by decide⟩) 3 0 hq9 rfl rfl rfl (Nat.le_of_ble_eq_true rfl) dX5_ask_116 ⟨Nat.le_of_ble_eq_true rfl, Nat.le_of_ble_eq_true rfl⟩ (fun r w1 hp => ?_)
              obtain ⟨rfl, rfl⟩ := hp
              refine v_iconst (v := 1) C dX5_ask_119 (by decide) ?_
              refine v_isub C dX5_ask_120 ?_
              refine v_tov (y := nI na) (by rw [show (1 : Int32) = nI 1 from rfl, pk_sub (by omega), Nat.add_sub_cancel]) ?_
              refine v_iret C hr dX5_ask_121 (Nat.le_of_ble_eq_true rfl) (Nat.le_of_ble_eq_true rfl) ?_
              exact ⟨_, rfl, Or.inl ⟨⟨c4, Or.inr ⟨⟨c32, c39⟩, c54⟩, by omega⟩, rfl, va_up qe 3 qe1, va_up pl 3 (va_up (pl 3) na qn), by rw [if_neg c13]; exact hCF, hQ1, by omega, fun k z1 z2 => (k5 k (by omega) (by omega) (Or.inr z2)).trans (hn3 k (by omega))⟩⟩
            · rw [fa_lt, ti_10, nI_toInt (by omega)] at c69
              refine v_bipush (v := (-4)) C dX5_ask_72 (by decide) ?_
              refine v_iret C hr dX5_ask_74 (Nat.le_of_ble_eq_true rfl) (Nat.le_of_ble_eq_true rfl) ?_
              exact ⟨_, rfl, Or.inr ⟨fun h => by have := h.2.2; omega, rfl, by rw [if_pos c4, if_pos (Or.inr ⟨c32, c39⟩), if_pos (Or.inr c54)]⟩⟩
          · have c54 := and1_n1 (b01_0 c54)
            refine v_bipush (v := (-3)) C dX5_ask_57 (by decide) ?_
            refine v_iret C hr dX5_ask_59 (Nat.le_of_ble_eq_true rfl) (Nat.le_of_ble_eq_true rfl) ?_
            exact ⟨_, rfl, Or.inr ⟨fun h => h.2.1.elim c13 (fun h => h.2 c54), rfl, by rw [if_pos c4, if_pos (Or.inr ⟨c32, c39⟩), if_neg (fun h => h.elim c13 (fun h => h c54))]⟩⟩
        · have c39 := b01_0 c39
          refine v_iconst (v := (-1)) C dX5_ask_42 (by decide) ?_
          refine v_iret C hr dX5_ask_43 (Nat.le_of_ble_eq_true rfl) (Nat.le_of_ble_eq_true rfl) ?_
          exact ⟨_, rfl, Or.inr ⟨fun h => h.2.1.elim c13 (fun h => by first | exact c32 h.1.1 | exact c39 h.1.2), rfl, by rw [if_pos c4, if_neg (fun h => h.elim c13 (fun h => by first | exact c32 h.1 | exact c39 h.2))]⟩⟩
  · have c4 := b01_0 c4
    refine v_bipush (v := (-2)) C dX5_ask_7 (by decide) ?_
    refine v_iret C hr dX5_ask_9 (Nat.le_of_ble_eq_true rfl) (Nat.le_of_ble_eq_true rfl) ?_
    exact ⟨_, rfl, Or.inr ⟨fun h => c4 h.1, rfl, by rw [if_neg c4]⟩⟩
