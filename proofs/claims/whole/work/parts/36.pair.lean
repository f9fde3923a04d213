/-! ===== what holds of the whole world, call by call ===== -/
def INV (E : gE) (a b : Nat) (zw : va_W) : Prop := ∃ (ca ad : Nat → Nat) (g : Nat → Int32) (ar : Nat → Nat → Int32) (tk ns np na : Nat) (dr ch : Nat → Int32) (qe : Nat → Nat) (pl : Nat → Nat → Nat) (L0 L1 : List Int32), ca 0 = a ∧ ad 0 = b ∧ 31 ≤ zw.length ∧ mAt zw (mcl E ad g ar) ∧ CF E ca zw (nI tk) ar dr ch ns np na qe pl ∧ CQ qe ∧ cS E ca zw 8 L0 ∧ cS E ca zw 10 L1 ∧ GI g ar tk ns np na dr ch
def PrI (l : Launch) (y1 : MethodName) (ws1 : List Cond) (rm1 : Room) (y2 : MethodName) (ws2 : List Cond) (rm2 : Room) (E : gE) (a b : Nat) (As : List Value) (zw : va_W) (mc ms : Nat) : Prop :=
  (∃ fs : List Value, zw[0]? = some (a, .inr (6, fs))) ∧ ∃ Mid : Int32 → va_W → Prop, CtI l y1 ws1 rm1 E (.ref a :: As) zw Mid mc ms ∧ ∀ (r : Int32) (w1 : va_W), Mid r w1 → (∃ fs : List Value, w1[12]? = some (b, .inr (7, fs))) ∧ CtI l y2 ws2 rm2 E (.ref b :: As) w1 (fun r2 w2 => r2 = r ∧ INV E a b w2) 0 0
def PrL (l : Launch) (y1 : MethodName) (ws1 : List Cond) (rm1 : Room) (y2 : MethodName) (ws2 : List Cond) (rm2 : Room) (E : gE) (a b : Nat) (As : List Value) (zw : va_W) (mc ms : Nat) : Prop :=
  (∃ fs : List Value, zw[0]? = some (a, .inr (6, fs))) ∧ ∃ Mid : Int64 → va_W → Prop, CtL l y1 ws1 rm1 E (.ref a :: As) zw Mid mc ms ∧ ∀ (r : Int64) (w1 : va_W), Mid r w1 → (∃ fs : List Value, w1[12]? = some (b, .inr (7, fs))) ∧ CtL l y2 ws2 rm2 E (.ref b :: As) w1 (fun r2 w2 => r2 = r ∧ INV E a b w2) 0 0
theorem ite_t {α : Type} {c : Prop} [Decidable c] {x y z : α} (h : c → x = y) : (if c then x else z) = (if c then y else z) := by
  by_cases q : c
  · rw [if_pos q, if_pos q, h q]
  · rw [if_neg q, if_neg q]
theorem mAt.up {zw w1 X : va_W} (h : mAt zw X) (hX : X.length = 19) (hk : ∀ k, 12 ≤ k → k < 31 → w1[k]? = zw[k]?) : mAt w1 X := by
  intro k q hq
  have := (List.getElem?_eq_some_iff.mp hq).1
  exact (hk (12 + k) (by omega) (by omega)).trans (h k q hq)
theorem INV.mk2 {E : gE} {ca ad : Nat → Nat} {g1 : Nat → Int32} {ar1 : Nat → Nat → Int32} {tk ns np na : Nat} {dr ch : Nat → Int32} {qe : Nat → Nat} {pl : Nat → Nat → Nat} {L0 L1 : List Int32} {w1 w2 : va_W} (h31 : 31 ≤ w1.length) (hC : CF E ca w1 (nI tk) ar1 dr ch ns np na qe pl) (hQ : CQ qe) (hs : cS E ca w1 8 L0) (hv : cS E ca w1 10 L1) (hM : mAt w2 (mcl E ad g1 ar1)) (hR : mFr w1 w2) (hG : GI g1 ar1 tk ns np na dr ch) : INV E (ca 0) (ad 0) w2 :=
  ⟨ca, ad, g1, ar1, tk, ns, np, na, dr, ch, qe, pl, L0, L1, rfl, rfl, by rw [hR.1]; exact h31, hM, hC.keep (fun k z => hR.2 k (by omega)), hQ, hs.keep (hR.2 8 (by omega)) (hR.2 9 (by omega)), hv.keep (hR.2 10 (by omega)) (hR.2 11 (by omega)), hG⟩
theorem INV.mk1 {E : gE} {ca ad : Nat → Nat} {g g1 : Nat → Int32} {ar ar1 : Nat → Nat → Int32} {tk ns np na : Nat} {dr ch : Nat → Int32} {qe : Nat → Nat} {pl : Nat → Nat → Nat} {L0 L1 : List Int32} {w1 w2 : va_W} (h31 : 31 ≤ w1.length) (hC : CF E ca w1 (nI tk) ar dr ch ns np na qe pl) (hQ : CQ qe) (hs : cS E ca w1 8 L0) (hv : cS E ca w1 10 L1) (hG : GI g ar tk ns np na dr ch) (hM : mAt w2 (mcl E ad g1 ar1)) (hR : mFr w1 w2) (hS : mSc g ar g1 ar1) : INV E (ca 0) (ad 0) w2 := INV.mk2 h31 (hC.sc hS) hQ hs hv hM hR (hG.sc hS)
theorem wF_cong {u v : Nat → Int32} : ∀ {n : Nat}, (∀ m, m < n → u m = v m) → wF u n = wF v n ∧ wB u n = wB v n
  | 0, _ => ⟨rfl, rfl⟩
  | n + 1, h => by
    obtain ⟨h1, h2⟩ := wF_cong (n := n) (fun m hm => h m (by omega))
    rw [wF_s, wF_s, wB_s, wB_s, h1, h2, h n (by omega)]
    exact ⟨rfl, rfl⟩
theorem plS_cong {u v lo : Nat → Int32} {most : Int32} : ∀ {n : Nat}, (∀ m, m < n → u m = v m) → plS u lo most n = plS v lo most n
  | 0, _ => rfl
  | n + 1, h => by
    rw [plS_s, plS_s, plS_cong (n := n) (fun m hm => h m (by omega)), h n (by omega)]
theorem one_sh : ∀ m, m < 6 → (1 : Int32) <<< (nI m &&& 31) = nI (2 ^ m) ∧ 2 ^ m < 64 := by decide +kernel
set_option maxHeartbeats 4000000 in
set_option maxRecDepth 100000 in
theorem pr_series (l : Launch) {E : gE} {a b : Nat} {zw : va_W} (hV : INV E a b zw) (i0 x : Int32) : PrI l yX5_series wsX5_series ({ frames := 3, cells := 0, slots := 0, locals := 64 }) yX6_series wsX6_series ({ frames := 1, cells := 0, slots := 0, locals := 25 }) E a b [.int i0, .int x] zw 0 0 := by
  have hV0 := hV
  obtain ⟨ca, ad, g, ar, tk, ns, np, na, dr, ch, qe, pl, L0, L1, rfl, rfl, h31, hM, hC, hQ, hs, hv, hG⟩ := hV
  have hI := hG.1
  have hR := hG.2.2.1
  have hb : ns ≤ 120 ∧ np ≤ 2000 ∧ na ≤ 10 := ⟨hI.ser.2, hI.sam.2, hI.ask.2⟩
  have htk := hI.tick.2
  have eg := hI.1.1
  refine ⟨⟨_, hC.1⟩, _, c_X5_series l E zw hC hb i0 x, fun r w1 hp => ?_⟩
  obtain ⟨rfl, hr⟩ := hp
  refine ⟨⟨_, hM 0 _ rfl⟩, Ct.mono (c_X6_series l E zw hM hI i0 x) (fun v w2 hq => ?_)⟩
  obtain ⟨r2, rfl, rfl, hr2⟩ := hq
  refine ⟨r2, rfl, ?_, hV0⟩
  rw [hr2, hr]

set_option maxHeartbeats 4000000 in
set_option maxRecDepth 100000 in
theorem pr_find (l : Launch) {E : gE} {a b : Nat} {zw : va_W} (hV : INV E a b zw) (x : Int32) : PrI l yX5_find wsX5_find ({ frames := 4, cells := 0, slots := 0, locals := 86 }) yX6_find wsX6_find ({ frames := 2, cells := 0, slots := 0, locals := 45 }) E a b [.int x] zw 0 0 := by
  have hV0 := hV
  obtain ⟨ca, ad, g, ar, tk, ns, np, na, dr, ch, qe, pl, L0, L1, rfl, rfl, h31, hM, hC, hQ, hs, hv, hG⟩ := hV
  have hI := hG.1
  have hR := hG.2.2.1
  have hb : ns ≤ 120 ∧ np ≤ 2000 ∧ na ≤ 10 := ⟨hI.ser.2, hI.sam.2, hI.ask.2⟩
  have htk := hI.tick.2
  have eg := hI.1.1
  refine ⟨⟨_, hC.1⟩, _, c_X5_find l E zw hC hb x, fun r w1 hp => ?_⟩
  obtain ⟨rfl, hr⟩ := hp
  refine ⟨⟨_, hM 0 _ rfl⟩, Ct.mono (c_X6_find l E zw hM hI x) (fun v w2 hq => ?_)⟩
  obtain ⟨r2, rfl, rfl, hr2⟩ := hq
  refine ⟨r2, rfl, ?_, hV0⟩
  rw [hr2, hr]

set_option maxHeartbeats 4000000 in
set_option maxRecDepth 100000 in
theorem pr_growth (l : Launch) {E : gE} {a b : Nat} {zw : va_W} (hV : INV E a b zw) (i0 f t : Int32) : PrL l yX5_growth wsX5_growth ({ frames := 4, cells := 0, slots := 0, locals := 92 }) yX6_growth wsX6_growth ({ frames := 2, cells := 0, slots := 0, locals := 47 }) E a b [.int i0, .int f, .int t] zw 0 0 := by
  have hV0 := hV
  obtain ⟨ca, ad, g, ar, tk, ns, np, na, dr, ch, qe, pl, L0, L1, rfl, rfl, h31, hM, hC, hQ, hs, hv, hG⟩ := hV
  have hI := hG.1
  have hR := hG.2.2.1
  have hb : ns ≤ 120 ∧ np ≤ 2000 ∧ na ≤ 10 := ⟨hI.ser.2, hI.sam.2, hI.ask.2⟩
  have htk := hI.tick.2
  have eg := hI.1.1
  refine ⟨⟨_, hC.1⟩, _, c_X5_growth l E zw hC hb i0 f t, fun r w1 hp => ?_⟩
  obtain ⟨rfl, hr⟩ := hp
  refine ⟨⟨_, hM 0 _ rfl⟩, Ct.mono (c_X6_growth l E zw hM hI i0 f t) (fun v w2 hq => ?_)⟩
  obtain ⟨r2, rfl, rfl, hr2⟩ := hq
  refine ⟨r2, rfl, ?_, hV0⟩
  rw [hr2, hr]
  rw [eg]
  refine ite_t (fun c => ite_t (fun _ => ?_))
  obtain ⟨j, hj, rfl⟩ := nI_ex c.1 c.2
  rw [nI_clamp (by omega)]
  exact grow_eq hI hj f t
set_option maxHeartbeats 4000000 in
set_option maxRecDepth 100000 in
theorem pr_seen (l : Launch) {E : gE} {a b : Nat} {zw : va_W} (hV : INV E a b zw) (f t : Int32) : PrI l yX5_seen wsX5_seen ({ frames := 5, cells := 0, slots := 0, locals := 111 }) yX6_seen wsX6_seen ({ frames := 2, cells := 0, slots := 0, locals := 47 }) E a b [.int f, .int t] zw 0 0 := by
  have hV0 := hV
  obtain ⟨ca, ad, g, ar, tk, ns, np, na, dr, ch, qe, pl, L0, L1, rfl, rfl, h31, hM, hC, hQ, hs, hv, hG⟩ := hV
  have hI := hG.1
  have hR := hG.2.2.1
  have hb : ns ≤ 120 ∧ np ≤ 2000 ∧ na ≤ 10 := ⟨hI.ser.2, hI.sam.2, hI.ask.2⟩
  have htk := hI.tick.2
  have eg := hI.1.1
  refine ⟨⟨_, hC.1⟩, _, c_X5_seen l E zw hC hb hs hv f t, fun r w1 hp => ?_⟩
  obtain ⟨hW, ⟨M0, k0⟩, ⟨M1, k1⟩, hr⟩ := hp
  have hM1 := hM.up (w1 := w1) rfl (fun k z _ => hW.2 k (by omega))
  refine ⟨⟨_, hM1 0 _ rfl⟩, Ct.mono (c_X6_seen l E w1 hM1 hI f t) (fun v w2 hq => ?_)⟩
  obtain ⟨r2, rfl, g1, ar1, q1, q2, q3, hr2⟩ := hq
  refine ⟨r2, rfl, ?_, INV.mk1 (by rw [hW.1]; exact h31) (hC.w hW) hQ k0 k1 hG q1 q2 q3⟩
  rw [hr2, hr]
  rw [eg]
  exact ite_t (fun _ => by rw [seen_eq hI _ np (Nat.le_refl _)])
set_option maxHeartbeats 4000000 in
set_option maxRecDepth 100000 in
theorem pr_values (l : Launch) {E : gE} {a b : Nat} {zw : va_W} (hV : INV E a b zw) (mk f t : Int32) : PrI l yX5_values wsX5_values ({ frames := 5, cells := 0, slots := 0, locals := 111 }) yX6_values wsX6_values ({ frames := 2, cells := 0, slots := 0, locals := 47 }) E a b [.int mk, .int f, .int t] zw 0 0 := by
  have hV0 := hV
  obtain ⟨ca, ad, g, ar, tk, ns, np, na, dr, ch, qe, pl, L0, L1, rfl, rfl, h31, hM, hC, hQ, hs, hv, hG⟩ := hV
  have hI := hG.1
  have hR := hG.2.2.1
  have hb : ns ≤ 120 ∧ np ≤ 2000 ∧ na ≤ 10 := ⟨hI.ser.2, hI.sam.2, hI.ask.2⟩
  have htk := hI.tick.2
  have eg := hI.1.1
  refine ⟨⟨_, hC.1⟩, _, c_X5_values l E zw hC hb hs hv mk f t, fun r w1 hp => ?_⟩
  obtain ⟨hW, ⟨M0, k0⟩, ⟨M1, k1⟩, hr⟩ := hp
  have hM1 := hM.up (w1 := w1) rfl (fun k z _ => hW.2 k (by omega))
  refine ⟨⟨_, hM1 0 _ rfl⟩, Ct.mono (c_X6_values l E w1 hM1 hI mk f t) (fun v w2 hq => ?_)⟩
  obtain ⟨r2, rfl, g1, ar1, q1, q2, q3, hr2⟩ := hq
  refine ⟨r2, rfl, ?_, INV.mk1 (by rw [hW.1]; exact h31) (hC.w hW) hQ k0 k1 hG q1 q2 q3⟩
  rw [hr2, hr]
  rw [eg]
  refine ite_t (fun c => ite_t (fun _ => ?_))
  obtain ⟨m, hm, rfl⟩ := nI_ex2 (n := 5) c.1 c.2
  rw [val_eq hI (by omega)]
set_option maxHeartbeats 4000000 in
set_option maxRecDepth 100000 in
theorem pr_unlike (l : Launch) {E : gE} {a b : Nat} {zw : va_W} (hV : INV E a b zw) (mk f t : Int32) : PrI l yX5_unlike wsX5_unlike ({ frames := 5, cells := 0, slots := 0, locals := 111 }) yX6_unlike wsX6_unlike ({ frames := 2, cells := 0, slots := 0, locals := 47 }) E a b [.int mk, .int f, .int t] zw 0 0 := by
  have hV0 := hV
  obtain ⟨ca, ad, g, ar, tk, ns, np, na, dr, ch, qe, pl, L0, L1, rfl, rfl, h31, hM, hC, hQ, hs, hv, hG⟩ := hV
  have hI := hG.1
  have hR := hG.2.2.1
  have hb : ns ≤ 120 ∧ np ≤ 2000 ∧ na ≤ 10 := ⟨hI.ser.2, hI.sam.2, hI.ask.2⟩
  have htk := hI.tick.2
  have eg := hI.1.1
  refine ⟨⟨_, hC.1⟩, _, c_X5_unlike l E zw hC hb hs hv mk f t, fun r w1 hp => ?_⟩
  obtain ⟨hW, ⟨M0, k0⟩, ⟨M1, k1⟩, hr⟩ := hp
  have hM1 := hM.up (w1 := w1) rfl (fun k z _ => hW.2 k (by omega))
  refine ⟨⟨_, hM1 0 _ rfl⟩, Ct.mono (c_X6_unlike l E w1 hM1 hI mk f t) (fun v w2 hq => ?_)⟩
  obtain ⟨r2, rfl, g1, ar1, q1, q2, q3, hr2⟩ := hq
  refine ⟨r2, rfl, ?_, INV.mk1 (by rw [hW.1]; exact h31) (hC.w hW) hQ k0 k1 hG q1 q2 q3⟩
  rw [hr2, hr]
  rw [eg]
  refine ite_t (fun c => ?_)
  obtain ⟨m, hm, rfl⟩ := nI_ex2 (n := 63) c.1.1 c.1.2
  rw [unl_eq hI (by omega)]
set_option maxHeartbeats 4000000 in
set_option maxRecDepth 100000 in
theorem pr_kept (l : Launch) {E : gE} {a b : Nat} {zw : va_W} (hV : INV E a b zw) (f t : Int32) : PrI l yX5_kept wsX5_kept ({ frames := 4, cells := 0, slots := 0, locals := 87 }) yX6_kept wsX6_kept ({ frames := 2, cells := 0, slots := 0, locals := 47 }) E a b [.int f, .int t] zw 0 0 := by
  have hV0 := hV
  obtain ⟨ca, ad, g, ar, tk, ns, np, na, dr, ch, qe, pl, L0, L1, rfl, rfl, h31, hM, hC, hQ, hs, hv, hG⟩ := hV
  have hI := hG.1
  have hR := hG.2.2.1
  have hb : ns ≤ 120 ∧ np ≤ 2000 ∧ na ≤ 10 := ⟨hI.ser.2, hI.sam.2, hI.ask.2⟩
  have htk := hI.tick.2
  have eg := hI.1.1
  refine ⟨⟨_, hC.1⟩, _, c_X5_kept l E zw hC hb hs hv (fun k hk => by obtain ⟨t, t1, t2⟩ := hI.at k hk; exact ⟨t, by omega, t2⟩) f t, fun r w1 hp => ?_⟩
  obtain ⟨hW, ⟨M0, k0⟩, ⟨M1, k1⟩, hr⟩ := hp
  have hM1 := hM.up (w1 := w1) rfl (fun k z _ => hW.2 k (by omega))
  refine ⟨⟨_, hM1 0 _ rfl⟩, Ct.mono (c_X6_kept l E w1 hM1 hI f t) (fun v w2 hq => ?_)⟩
  obtain ⟨r2, rfl, g1, ar1, q1, q2, q3, hr2⟩ := hq
  refine ⟨r2, rfl, ?_, INV.mk1 (by rw [hW.1]; exact h31) (hC.w hW) hQ k0 k1 hG q1 q2 q3⟩
  rw [hr2, hr]
  rw [eg]
  refine ite_t (fun _ => ?_)
  rw [insN_cong (fun _ _ => rfl) (fun k hk _ => ?_)]
  obtain ⟨t9, t1, t2⟩ := hI.at k hk
  show shI ar (sNm ar k) (ar 12 k).toNatClampNeg 6 = _
  exact (sh_eq hR _ (by rw [t2, nI_clamp (by omega)]; omega) 6 (Nat.le_refl _)).symm
set_option maxHeartbeats 4000000 in
set_option maxRecDepth 100000 in
theorem pr_worst (l : Launch) {E : gE} {a b : Nat} {zw : va_W} (hV : INV E a b zw) (f t : Int32) : PrI l yX5_worst wsX5_worst ({ frames := 5, cells := 0, slots := 0, locals := 111 }) yX6_worst wsX6_worst ({ frames := 2, cells := 0, slots := 0, locals := 47 }) E a b [.int f, .int t] zw 0 0 := by
  have hV0 := hV
  obtain ⟨ca, ad, g, ar, tk, ns, np, na, dr, ch, qe, pl, L0, L1, rfl, rfl, h31, hM, hC, hQ, hs, hv, hG⟩ := hV
  have hI := hG.1
  have hR := hG.2.2.1
  have hb : ns ≤ 120 ∧ np ≤ 2000 ∧ na ≤ 10 := ⟨hI.ser.2, hI.sam.2, hI.ask.2⟩
  have htk := hI.tick.2
  have eg := hI.1.1
  refine ⟨⟨_, hC.1⟩, _, c_X5_worst l E zw hC hb hs hv f t, fun r w1 hp => ?_⟩
  obtain ⟨hW, ⟨M0, k0⟩, ⟨M1, k1⟩, hr⟩ := hp
  have hM1 := hM.up (w1 := w1) rfl (fun k z _ => hW.2 k (by omega))
  refine ⟨⟨_, hM1 0 _ rfl⟩, Ct.mono (c_X6_worst l E w1 hM1 hI f t) (fun v w2 hq => ?_)⟩
  obtain ⟨r2, rfl, g1, ar1, q1, q2, q3, hr2⟩ := hq
  refine ⟨r2, rfl, ?_, INV.mk1 (by rw [hW.1]; exact h31) (hC.w hW) hQ k0 k1 hG q1 q2 q3⟩
  rw [hr2, hr]
  rw [eg]
  refine ite_t (fun _ => (wF_cong (fun m hm => ?_)).2)
  obtain ⟨e1, e2⟩ := one_sh m hm
  rw [e1]
  show _ = nI (LN _ (dgs (63 ^^^ nI (2 ^ m)) 6) _).length
  rw [unl_eq hI e2]
set_option maxHeartbeats 4000000 in
set_option maxRecDepth 100000 in
theorem pr_dropped (l : Launch) {E : gE} {a b : Nat} {zw : va_W} (hV : INV E a b zw) (mk t : Int32) : PrI l yX5_dropped wsX5_dropped ({ frames := 2, cells := 0, slots := 0, locals := 43 }) yX6_dropped wsX6_dropped ({ frames := 2, cells := 0, slots := 0, locals := 45 }) E a b [.int mk, .int t] zw 0 0 := by
  have hV0 := hV
  obtain ⟨ca, ad, g, ar, tk, ns, np, na, dr, ch, qe, pl, L0, L1, rfl, rfl, h31, hM, hC, hQ, hs, hv, hG⟩ := hV
  have hI := hG.1
  have hR := hG.2.2.1
  have hb : ns ≤ 120 ∧ np ≤ 2000 ∧ na ≤ 10 := ⟨hI.ser.2, hI.sam.2, hI.ask.2⟩
  have htk := hI.tick.2
  have eg := hI.1.1
  refine ⟨⟨_, hC.1⟩, _, c_X5_dropped l E zw hC hb (tk := tk) rfl htk mk t, fun r w1 hp => ?_⟩
  obtain ⟨rfl, hr⟩ := hp
  refine ⟨⟨_, hM 0 _ rfl⟩, Ct.mono (c_X6_dropped l E zw hM hI mk t) (fun v w2 hq => ?_)⟩
  obtain ⟨r2, rfl, rfl, hr2⟩ := hq
  refine ⟨r2, rfl, ?_, hV0⟩
  rw [hr2, hr]
  rw [eg]
  refine ite_t (fun c => ite_t (fun d => ?_))
  obtain ⟨m, hm, rfl⟩ := nI_ex2 (n := 5) c.1 c.2
  rw [nI_toInt (n := tk) (by omega)] at d
  obtain ⟨u, hu, rfl⟩ := nI_ex2 (n := tk) d.1 d.2
  rw [nI_clamp (n := m) (by omega), nI_clamp (n := u) (by omega)]
  exact (drp_eq hI hR (by omega) (by omega)).symm
set_option maxHeartbeats 4000000 in
set_option maxRecDepth 100000 in
theorem pr_chief (l : Launch) {E : gE} {a b : Nat} {zw : va_W} (hV : INV E a b zw) (mk v t : Int32) : PrI l yX5_chief wsX5_chief ({ frames := 2, cells := 0, slots := 0, locals := 44 }) yX6_chief wsX6_chief ({ frames := 2, cells := 0, slots := 0, locals := 45 }) E a b [.int mk, .int v, .int t] zw 0 0 := by
  have hV0 := hV
  obtain ⟨ca, ad, g, ar, tk, ns, np, na, dr, ch, qe, pl, L0, L1, rfl, rfl, h31, hM, hC, hQ, hs, hv, hG⟩ := hV
  have hI := hG.1
  have hR := hG.2.2.1
  have hb : ns ≤ 120 ∧ np ≤ 2000 ∧ na ≤ 10 := ⟨hI.ser.2, hI.sam.2, hI.ask.2⟩
  have htk := hI.tick.2
  have eg := hI.1.1
  refine ⟨⟨_, hC.1⟩, _, c_X5_chief l E zw hC hb (tk := tk) rfl htk mk v t, fun r w1 hp => ?_⟩
  obtain ⟨rfl, hr⟩ := hp
  refine ⟨⟨_, hM 0 _ rfl⟩, Ct.mono (c_X6_chief l E zw hM hI mk v t) (fun v w2 hq => ?_)⟩
  obtain ⟨r2, rfl, rfl, hr2⟩ := hq
  refine ⟨r2, rfl, ?_, hV0⟩
  rw [hr2, hr]
  rw [eg]
  refine ite_t (fun c => ite_t (fun d => ?_))
  obtain ⟨m, hm, rfl⟩ := nI_ex2 (n := 5) c.1.1 c.1.2
  obtain ⟨u9, hu9, rfl⟩ := nI_ex2 (n := 7) c.2.1 c.2.2
  rw [nI_toInt (n := tk) (by omega)] at d
  obtain ⟨u, hu, rfl⟩ := nI_ex2 (n := tk) d.1 d.2
  rw [nI_clamp (n := m) (by omega), nI_clamp (n := u) (by omega), nI_clamp (n := u9) (by omega)]
  exact (chf_eq hR (by omega) (by omega) (by omega)).symm
set_option maxHeartbeats 4000000 in
set_option maxRecDepth 100000 in
theorem pr_shortAt (l : Launch) {E : gE} {a b : Nat} {zw : va_W} (hV : INV E a b zw) (x t : Int32) : PrI l yX5_shortAt wsX5_shortAt ({ frames := 3, cells := 0, slots := 0, locals := 68 }) yX6_shortAt wsX6_shortAt ({ frames := 2, cells := 0, slots := 0, locals := 46 }) E a b [.int x, .int t] zw 0 0 := by
  have hV0 := hV
  obtain ⟨ca, ad, g, ar, tk, ns, np, na, dr, ch, qe, pl, L0, L1, rfl, rfl, h31, hM, hC, hQ, hs, hv, hG⟩ := hV
  have hI := hG.1
  have hR := hG.2.2.1
  have hb : ns ≤ 120 ∧ np ≤ 2000 ∧ na ≤ 10 := ⟨hI.ser.2, hI.sam.2, hI.ask.2⟩
  have htk := hI.tick.2
  have eg := hI.1.1
  refine ⟨⟨_, hC.1⟩, _, c_X5_shortAt l E zw hC hb (tk := tk) rfl htk x t, fun r w1 hp => ?_⟩
  obtain ⟨rfl, hr⟩ := hp
  refine ⟨⟨_, hM 0 _ rfl⟩, Ct.mono (c_X6_shortAt l E zw hM hI x t) (fun v w2 hq => ?_)⟩
  obtain ⟨r2, rfl, rfl, hr2⟩ := hq
  refine ⟨r2, rfl, ?_, hV0⟩
  rw [hr2, hr]
  rw [eg]
  refine ite_t (fun c => ?_)
  have d := c.2
  rw [nI_toInt (n := tk) (by omega)] at d
  obtain ⟨u, hu, rfl⟩ := nI_ex2 (n := tk) d.1 d.2
  rw [nI_clamp (n := u) (by omega)]
  exact (sh_eq hR _ (by omega) 6 (Nat.le_refl _)).symm
set_option maxHeartbeats 4000000 in
set_option maxRecDepth 100000 in
theorem pr_answer (l : Launch) {E : gE} {a b : Nat} {zw : va_W} (hV : INV E a b zw) (a0 x f t : Int32) : PrL l yX5_answer wsX5_answer ({ frames := 4, cells := 0, slots := 0, locals := 92 }) yX6_answer wsX6_answer ({ frames := 2, cells := 0, slots := 0, locals := 47 }) E a b [.int a0, .int x, .int f, .int t] zw 0 0 := by
  have hV0 := hV
  obtain ⟨ca, ad, g, ar, tk, ns, np, na, dr, ch, qe, pl, L0, L1, rfl, rfl, h31, hM, hC, hQ, hs, hv, hG⟩ := hV
  have hI := hG.1
  have hR := hG.2.2.1
  have hb : ns ≤ 120 ∧ np ≤ 2000 ∧ na ≤ 10 := ⟨hI.ser.2, hI.sam.2, hI.ask.2⟩
  have htk := hI.tick.2
  have eg := hI.1.1
  refine ⟨⟨_, hC.1⟩, _, c_X5_answer l E zw hC hb a0 x f t, fun r w1 hp => ?_⟩
  obtain ⟨rfl, hr⟩ := hp
  refine ⟨⟨_, hM 0 _ rfl⟩, Ct.mono (c_X6_answer l E zw hM hI a0 x f t) (fun v w2 hq => ?_)⟩
  obtain ⟨r2, rfl, rfl, hr2⟩ := hq
  refine ⟨r2, rfl, ?_, hV0⟩
  rw [hr2, hr]
  rw [eg]
  refine ite_t (fun c => ?_)
  obtain ⟨j, hj, rfl⟩ := nI_ex c.1 c.2
  rw [nI_clamp (n := j) (by omega)]
  by_cases hx : 0 ≤ x.toInt ∧ x.toInt ≤ 262143
  · obtain ⟨n, hn, rfl⟩ := nI_ex2 (n := 262143) hx.1 hx.2
    have ok := ans_ok hI hj (n := n) (by omega)
    by_cases hk : kyC ar j (nI n) = nI n
    · have hk2 := ok.mp hk
      by_cases hsp : 0 ≤ t.toInt ∧ t.toInt ≤ (nI tk).toInt ∧ 0 ≤ f.toInt ∧ f.toInt ≤ t.toInt
      · rw [if_pos ⟨hx, hk2.1, hk2.2, hsp⟩, if_pos ⟨hx, hk, hsp⟩]
        exact ans_eq hI hj (by omega) hk f t
      · rw [if_neg (fun h => hsp h.2.2.2), if_neg (fun h => hsp h.2.2)]
    · rw [if_neg (fun h => hk (ok.mpr ⟨h.2.1, h.2.2.1⟩)), if_neg (fun h => hk h.2.1)]
  · rw [if_neg (fun h => hx h.1), if_neg (fun h => hx h.1)]
set_option maxHeartbeats 4000000 in
set_option maxRecDepth 100000 in
theorem pr_keys (l : Launch) {E : gE} {a b : Nat} {zw : va_W} (hV : INV E a b zw) (a0 f t : Int32) : PrI l yX5_keys wsX5_keys ({ frames := 6, cells := 0, slots := 0, locals := 136 }) yX6_keys wsX6_keys ({ frames := 3, cells := 0, slots := 0, locals := 70 }) E a b [.int a0, .int f, .int t] zw 0 0 := by
  have hV0 := hV
  obtain ⟨ca, ad, g, ar, tk, ns, np, na, dr, ch, qe, pl, L0, L1, rfl, rfl, h31, hM, hC, hQ, hs, hv, hG⟩ := hV
  have hI := hG.1
  have hR := hG.2.2.1
  have hb : ns ≤ 120 ∧ np ≤ 2000 ∧ na ≤ 10 := ⟨hI.ser.2, hI.sam.2, hI.ask.2⟩
  have htk := hI.tick.2
  have eg := hI.1.1
  refine ⟨⟨_, hC.1⟩, _, c_X5_keys l E zw hC hb hs hv a0 f t, fun r w1 hp => ?_⟩
  obtain ⟨hW, ⟨M0, k0⟩, ⟨M1, k1⟩, hr⟩ := hp
  have hM1 := hM.up (w1 := w1) rfl (fun k z _ => hW.2 k (by omega))
  refine ⟨⟨_, hM1 0 _ rfl⟩, Ct.mono (c_X6_keys l E w1 hM1 hI a0 f t) (fun v w2 hq => ?_)⟩
  obtain ⟨r2, rfl, g1, ar1, q1, q2, q3, hr2⟩ := hq
  refine ⟨r2, rfl, ?_, INV.mk1 (by rw [hW.1]; exact h31) (hC.w hW) hQ k0 k1 hG q1 q2 q3⟩
  rw [hr2, hr]
  rw [eg]
  refine ite_t (fun c => ite_t (fun _ => ?_))
  obtain ⟨j, hj, rfl⟩ := nI_ex c.1 c.2
  rw [nI_clamp (n := j) (by omega), keys_eq hI hj]
set_option maxHeartbeats 4000000 in
set_option maxRecDepth 100000 in
theorem pr_key (l : Launch) {E : gE} {a b : Nat} {zw : va_W} (hV : INV E a b zw) (a0 i0 f t : Int32) : PrI l yX5_key wsX5_key ({ frames := 6, cells := 0, slots := 0, locals := 136 }) yX6_key wsX6_key ({ frames := 3, cells := 0, slots := 0, locals := 70 }) E a b [.int a0, .int i0, .int f, .int t] zw 0 0 := by
  have hV0 := hV
  obtain ⟨ca, ad, g, ar, tk, ns, np, na, dr, ch, qe, pl, L0, L1, rfl, rfl, h31, hM, hC, hQ, hs, hv, hG⟩ := hV
  have hI := hG.1
  have hR := hG.2.2.1
  have hb : ns ≤ 120 ∧ np ≤ 2000 ∧ na ≤ 10 := ⟨hI.ser.2, hI.sam.2, hI.ask.2⟩
  have htk := hI.tick.2
  have eg := hI.1.1
  refine ⟨⟨_, hC.1⟩, _, c_X5_key l E zw hC hb hs hv a0 i0 f t, fun r w1 hp => ?_⟩
  obtain ⟨hW, ⟨M0, k0⟩, ⟨M1, k1⟩, hr⟩ := hp
  have hM1 := hM.up (w1 := w1) rfl (fun k z _ => hW.2 k (by omega))
  refine ⟨⟨_, hM1 0 _ rfl⟩, Ct.mono (c_X6_key l E w1 hM1 hI a0 i0 f t) (fun v w2 hq => ?_)⟩
  obtain ⟨r2, rfl, g1, ar1, q1, q2, q3, hr2⟩ := hq
  refine ⟨r2, rfl, ?_, INV.mk1 (by rw [hW.1]; exact h31) (hC.w hW) hQ k0 k1 hG q1 q2 q3⟩
  rw [hr2, hr]
  rw [eg]
  refine ite_t (fun c => ite_t (fun _ => ?_))
  obtain ⟨j, hj, rfl⟩ := nI_ex c.1 c.2
  rw [nI_clamp (n := j) (by omega), keys_eq hI hj]
set_option maxHeartbeats 4000000 in
set_option maxRecDepth 100000 in
theorem pr_lacks (l : Launch) {E : gE} {a b : Nat} {zw : va_W} (hV : INV E a b zw) (a0 f t : Int32) : PrI l yX5_lacks wsX5_lacks ({ frames := 3, cells := 0, slots := 0, locals := 64 }) yX6_lacks wsX6_lacks ({ frames := 2, cells := 0, slots := 0, locals := 47 }) E a b [.int a0, .int f, .int t] zw 0 0 := by
  have hV0 := hV
  obtain ⟨ca, ad, g, ar, tk, ns, np, na, dr, ch, qe, pl, L0, L1, rfl, rfl, h31, hM, hC, hQ, hs, hv, hG⟩ := hV
  have hI := hG.1
  have hR := hG.2.2.1
  have hb : ns ≤ 120 ∧ np ≤ 2000 ∧ na ≤ 10 := ⟨hI.ser.2, hI.sam.2, hI.ask.2⟩
  have htk := hI.tick.2
  have eg := hI.1.1
  refine ⟨⟨_, hC.1⟩, _, c_X5_lacks l E zw hC hb (tk := tk) rfl htk a0 f t, fun r w1 hp => ?_⟩
  obtain ⟨rfl, hr⟩ := hp
  refine ⟨⟨_, hM 0 _ rfl⟩, Ct.mono (c_X6_lacks l E zw hM hI a0 f t) (fun v w2 hq => ?_)⟩
  obtain ⟨r2, rfl, rfl, hr2⟩ := hq
  refine ⟨r2, rfl, ?_, hV0⟩
  rw [hr2, hr]
  rw [eg]
  refine ite_t (fun c => ite_t (fun d => ?_))
  obtain ⟨j, hj, rfl⟩ := nI_ex c.1 c.2
  rw [nI_toInt (n := tk) (by omega)] at d
  obtain ⟨u, hu, rfl⟩ := nI_ex2 (n := tk) d.1 d.2.1
  rw [nI_toInt (n := u) (by omega)] at d
  obtain ⟨u9, hu9, rfl⟩ := nI_ex2 (n := u) d.2.2.1 d.2.2.2
  rw [nI_clamp (n := j) (by omega), nI_clamp (n := u) (by omega), nI_clamp (n := u9) (by omega)]
  exact fiT_cong _ _ (fun t9 h1 h2 => (lak_eq hI hR hj (by omega)).symm)
set_option maxHeartbeats 4000000 in
set_option maxRecDepth 100000 in
theorem pr_works (l : Launch) {E : gE} {a b : Nat} {zw : va_W} (hV : INV E a b zw) (a0 f t : Int32) : PrI l yX5_works wsX5_works ({ frames := 3, cells := 0, slots := 0, locals := 64 }) yX6_works wsX6_works ({ frames := 3, cells := 0, slots := 0, locals := 71 }) E a b [.int a0, .int f, .int t] zw 0 0 := by
  have hV0 := hV
  obtain ⟨ca, ad, g, ar, tk, ns, np, na, dr, ch, qe, pl, L0, L1, rfl, rfl, h31, hM, hC, hQ, hs, hv, hG⟩ := hV
  have hI := hG.1
  have hR := hG.2.2.1
  have hb : ns ≤ 120 ∧ np ≤ 2000 ∧ na ≤ 10 := ⟨hI.ser.2, hI.sam.2, hI.ask.2⟩
  have htk := hI.tick.2
  have eg := hI.1.1
  refine ⟨⟨_, hC.1⟩, _, c_X5_works l E zw hC hb (tk := tk) rfl htk a0 f t, fun r w1 hp => ?_⟩
  obtain ⟨rfl, hr⟩ := hp
  refine ⟨⟨_, hM 0 _ rfl⟩, Ct.mono (c_X6_works l E zw hM hI a0 f t) (fun v w2 hq => ?_)⟩
  obtain ⟨r2, rfl, rfl, hr2⟩ := hq
  refine ⟨r2, rfl, ?_, hV0⟩
  rw [hr2, hr]
  rw [eg]
  refine ite_t (fun c => ite_t (fun d => ?_))
  obtain ⟨j, hj, rfl⟩ := nI_ex c.1 c.2
  rw [nI_toInt (n := tk) (by omega)] at d
  obtain ⟨u, hu, rfl⟩ := nI_ex2 (n := tk) d.1 d.2.1
  rw [nI_toInt (n := u) (by omega)] at d
  obtain ⟨u9, hu9, rfl⟩ := nI_ex2 (n := u) d.2.2.1 d.2.2.2
  rw [nI_clamp (n := j) (by omega), nI_clamp (n := u) (by omega), nI_clamp (n := u9) (by omega), fiT_cong (y := fun t => lkA ar (ar 18 j) t 6) (z := fun t => dr t &&& ar 18 j) _ _ (fun t9 h1 h2 => (lak_eq hI hR hj (by omega)).symm)]
  refine ite_t (fun _ => ?_)
  have hw9 := wrk_eq hR hG.2.2.2 htk (ar 18 j) hu9 hu
  by_cases q : afC ch (ar 18 j) u 6 0 = 0
  · rw [if_pos (hw9.mp q), if_pos q]
  · rw [if_neg (fun z => q (hw9.mpr z)), if_neg q]
set_option maxHeartbeats 4000000 in
set_option maxRecDepth 100000 in
theorem pr_loss (l : Launch) {E : gE} {a b : Nat} {zw : va_W} (hV : INV E a b zw) (mk : Int32) : PrI l yX5_loss wsX5_loss ({ frames := 4, cells := 0, slots := 0, locals := 88 }) yX6_loss wsX6_loss ({ frames := 1, cells := 0, slots := 0, locals := 25 }) E a b [.int mk] zw 0 0 := by
  have hV0 := hV
  obtain ⟨ca, ad, g, ar, tk, ns, np, na, dr, ch, qe, pl, L0, L1, rfl, rfl, h31, hM, hC, hQ, hs, hv, hG⟩ := hV
  have hI := hG.1
  have hR := hG.2.2.1
  have hb : ns ≤ 120 ∧ np ≤ 2000 ∧ na ≤ 10 := ⟨hI.ser.2, hI.sam.2, hI.ask.2⟩
  have htk := hI.tick.2
  have eg := hI.1.1
  refine ⟨⟨_, hC.1⟩, _, c_X5_loss l E zw hC hb mk, fun r w1 hp => ?_⟩
  obtain ⟨rfl, hr⟩ := hp
  refine ⟨⟨_, hM 0 _ rfl⟩, Ct.mono (c_X6_loss l E zw hM hI mk) (fun v w2 hq => ?_)⟩
  obtain ⟨r2, rfl, rfl, hr2⟩ := hq
  refine ⟨r2, rfl, ?_, hV0⟩
  rw [hr2, hr]

set_option maxHeartbeats 4000000 in
set_option maxRecDepth 100000 in
theorem pr_plan (l : Launch) {E : gE} {a b : Nat} {zw : va_W} (hV : INV E a b zw) (most f t : Int32) : PrI l yX5_plan wsX5_plan ({ frames := 5, cells := 0, slots := 0, locals := 111 }) yX6_plan wsX6_plan ({ frames := 2, cells := 0, slots := 0, locals := 47 }) E a b [.int most, .int f, .int t] zw 0 0 := by
  have hV0 := hV
  obtain ⟨ca, ad, g, ar, tk, ns, np, na, dr, ch, qe, pl, L0, L1, rfl, rfl, h31, hM, hC, hQ, hs, hv, hG⟩ := hV
  have hI := hG.1
  have hR := hG.2.2.1
  have hb : ns ≤ 120 ∧ np ≤ 2000 ∧ na ≤ 10 := ⟨hI.ser.2, hI.sam.2, hI.ask.2⟩
  have htk := hI.tick.2
  have eg := hI.1.1
  refine ⟨⟨_, hC.1⟩, _, c_X5_plan l E zw hC hb hs hv most f t, fun r w1 hp => ?_⟩
  obtain ⟨hW, ⟨M0, k0⟩, ⟨M1, k1⟩, hr⟩ := hp
  have hM1 := hM.up (w1 := w1) rfl (fun k z _ => hW.2 k (by omega))
  refine ⟨⟨_, hM1 0 _ rfl⟩, Ct.mono (c_X6_plan l E w1 hM1 hI most f t) (fun v w2 hq => ?_)⟩
  obtain ⟨r2, rfl, g1, ar1, q1, q2, q3, hr2⟩ := hq
  refine ⟨r2, rfl, ?_, INV.mk1 (by rw [hW.1]; exact h31) (hC.w hW) hQ k0 k1 hG q1 q2 q3⟩
  rw [hr2, hr]
  rw [eg]
  refine ite_t (fun _ => ?_)
  rw [plS_cong (fun m hm => ?_)]
  show _ = nI (LN _ (dgs (63 ^^^ nI m) 6) _).length
  rw [unl_eq hI hm]
set_option maxHeartbeats 4000000 in
set_option maxRecDepth 100000 in
theorem pr_bill (l : Launch) {E : gE} {a b : Nat} {zw : va_W} (hV : INV E a b zw) (mk v f t : Int32) : PrI l yX5_bill wsX5_bill ({ frames := 5, cells := 0, slots := 0, locals := 111 }) yX6_bill wsX6_bill ({ frames := 2, cells := 0, slots := 0, locals := 47 }) E a b [.int mk, .int v, .int f, .int t] zw 0 0 := by
  have hV0 := hV
  obtain ⟨ca, ad, g, ar, tk, ns, np, na, dr, ch, qe, pl, L0, L1, rfl, rfl, h31, hM, hC, hQ, hs, hv, hG⟩ := hV
  have hI := hG.1
  have hR := hG.2.2.1
  have hb : ns ≤ 120 ∧ np ≤ 2000 ∧ na ≤ 10 := ⟨hI.ser.2, hI.sam.2, hI.ask.2⟩
  have htk := hI.tick.2
  have eg := hI.1.1
  refine ⟨⟨_, hC.1⟩, _, c_X5_bill l E zw hC hb hs hv mk v f t, fun r w1 hp => ?_⟩
  obtain ⟨hW, ⟨M0, k0⟩, ⟨M1, k1⟩, hr⟩ := hp
  have hM1 := hM.up (w1 := w1) rfl (fun k z _ => hW.2 k (by omega))
  refine ⟨⟨_, hM1 0 _ rfl⟩, Ct.mono (c_X6_bill l E w1 hM1 hI mk v f t) (fun v w2 hq => ?_)⟩
  obtain ⟨r2, rfl, g1, ar1, q1, q2, q3, hr2⟩ := hq
  refine ⟨r2, rfl, ?_, INV.mk1 (by rw [hW.1]; exact h31) (hC.w hW) hQ k0 k1 hG q1 q2 q3⟩
  rw [hr2, hr]
  rw [eg]
  refine ite_t (fun _ => ite_t (fun _ => ?_))
  exact bill_eq hI mk v _
set_option maxHeartbeats 4000000 in
set_option maxRecDepth 100000 in
theorem pr_count (l : Launch) {E : gE} {a b : Nat} {zw : va_W} (hV : INV E a b zw) (x : Int32) : PrI l yX5_count wsX5_count ({ frames := 1, cells := 0, slots := 0, locals := 20 }) yX6_count wsX6_count ({ frames := 0, cells := 0, slots := 0, locals := 0 }) E a b [.int x] zw 0 0 := by
  have hV0 := hV
  obtain ⟨ca, ad, g, ar, tk, ns, np, na, dr, ch, qe, pl, L0, L1, rfl, rfl, h31, hM, hC, hQ, hs, hv, hG⟩ := hV
  have hI := hG.1
  have hR := hG.2.2.1
  have hb : ns ≤ 120 ∧ np ≤ 2000 ∧ na ≤ 10 := ⟨hI.ser.2, hI.sam.2, hI.ask.2⟩
  have htk := hI.tick.2
  have eg := hI.1.1
  refine ⟨⟨_, hC.1⟩, _, c_X5_count l E zw hC hb (tk := tk) rfl htk x, fun r w1 hp => ?_⟩
  obtain ⟨rfl, hr⟩ := hp
  refine ⟨⟨_, hM 0 _ rfl⟩, Ct.mono (c_X6_count l E zw hM hI x) (fun v w2 hq => ?_)⟩
  obtain ⟨r2, rfl, rfl, hr2⟩ := hq
  refine ⟨r2, rfl, ?_, hV0⟩
  rw [hr2, hr]
  rw [eg, hI.2.1.1, hI.2.2.1.1, hI.2.2.2.1.1, cnt_eq hR (show tk < 200 by omega)]
