set_option maxHeartbeats 4000000 in
set_option maxRecDepth 100000 in
theorem pr_pass (l : Launch) {E : gE} {a b : Nat} {zw : va_W} (hV : INV E a b zw) (x : Int32) : PrI l yX5_pass wsX5_pass ({ frames := 2, cells := 0, slots := 0, locals := 63 }) yX6_pass wsX6_pass ({ frames := 1, cells := 0, slots := 0, locals := 25 }) E a b [.int x] zw 0 0 := by
  have hV0 := hV
  obtain ⟨ca, ad, g, ar, tk, ns, np, na, dr, ch, qe, pl, L0, L1, rfl, rfl, h31, hM, hC, hQ, hs, hv, hG⟩ := hV
  have hI := hG.1
  have hR := hG.2.2.1
  have hb : ns ≤ 120 ∧ np ≤ 2000 ∧ na ≤ 10 := ⟨hI.ser.2, hI.sam.2, hI.ask.2⟩
  have htk := hI.tick.2
  have eg := hI.1.1
  refine ⟨⟨_, hC.1⟩, _, c_X5_pass l E zw hC hb (tk := tk) rfl htk x, fun r w1 hp => ?_⟩
  rcases hp with ⟨hok, hr, k1, k2⟩ | ⟨hno, rfl, hr⟩
  · have hM1 := hM.up (w1 := w1) rfl (fun k z z2 => k2.2 k (by omega) z2)
    refine ⟨⟨_, hM1 0 _ rfl⟩, Ct.mono (c_X6_pass l E w1 hM1 hI x) (fun v w2 hq => ?_)⟩
    obtain ⟨r2, rfl, g1, ar1, q1, q2, q3⟩ := hq
    rcases q3 with ⟨d1, d2, hr2, rfl, rfl⟩ | ⟨d1, -, -, -⟩
    · exact ⟨r2, rfl, by rw [hr2, hr], INV.mk2 (Nat.le_trans h31 k2.1) (k1.car (fun k z _ _ => by rw [va_up_ne _ _ (by omega), va_up_ne _ _ (by omega)])) hQ (hs.keep (k2.2 8 (by decide) (by decide)) (k2.2 9 (by decide) (by decide))) (hv.keep (k2.2 10 (by decide) (by decide)) (k2.2 11 (by decide) (by decide))) q1 q2 (hG.pass d2)⟩
    · exact absurd hok d1
  · refine ⟨⟨_, hM 0 _ rfl⟩, Ct.mono (c_X6_pass l E zw hM hI x) (fun v w2 hq => ?_)⟩
    obtain ⟨r2, rfl, g1, ar1, q1, q2, q3⟩ := hq
    rcases q3 with ⟨d1, d2, -⟩ | ⟨d1, rfl, rfl, hr2⟩
    · exact absurd ⟨d1, d2⟩ hno
    · exact ⟨r2, rfl, by rw [hr2, hr], INV.mk2 h31 hC hQ hs hv q1 q2 hG⟩
set_option maxHeartbeats 4000000 in
set_option maxRecDepth 100000 in
theorem pr_drop (l : Launch) {E : gE} {a b : Nat} {zw : va_W} (hV : INV E a b zw) (mk is : Int32) (his : is = 0 ∨ is = 1) : PrI l yX5_drop wsX5_drop ({ frames := 2, cells := 0, slots := 0, locals := 43 }) yX6_drop wsX6_drop ({ frames := 2, cells := 0, slots := 0, locals := 45 }) E a b [.int mk, .int is] zw 0 0 := by
  have hV0 := hV
  obtain ⟨ca, ad, g, ar, tk, ns, np, na, dr, ch, qe, pl, L0, L1, rfl, rfl, h31, hM, hC, hQ, hs, hv, hG⟩ := hV
  have hI := hG.1
  have hR := hG.2.2.1
  have hb : ns ≤ 120 ∧ np ≤ 2000 ∧ na ≤ 10 := ⟨hI.ser.2, hI.sam.2, hI.ask.2⟩
  have htk := hI.tick.2
  have eg := hI.1.1
  refine ⟨⟨_, hC.1⟩, _, c_X5_drop l E zw hC hb (tk := tk) rfl htk mk is, fun r w1 hp => ?_⟩
  rcases hp with ⟨hok, hr, k1, k2⟩ | ⟨hno, rfl, hr⟩
  · have hM1 := hM.up (w1 := w1) rfl (fun k z z2 => k2.2 k (by omega) z2)
    refine ⟨⟨_, hM1 0 _ rfl⟩, Ct.mono (c_X6_drop l E w1 hM1 hI mk is his) (fun v w2 hq => ?_)⟩
    obtain ⟨r2, rfl, ar1, q1, q2, q3, hr2⟩ := hq
    rw [if_pos hok] at q3 hr2
    obtain ⟨m, hm, rfl⟩ := nI_ex2 (n := 5) hok.1 hok.2
    rw [nI_clamp (n := m) (by omega)] at q3 hr2
    subst q3
    refine ⟨r2, rfl, ?_, INV.mk2 (Nat.le_trans h31 k2.1) (k1.car (fun k z _ _ => va_up_ne _ _ (by omega))) hQ (hs.keep (k2.2 8 (by decide) (by decide)) (k2.2 9 (by decide) (by decide))) (hv.keep (k2.2 10 (by decide) (by decide)) (k2.2 11 (by decide) (by decide))) q1 q2 (hG.drop (by omega) his)⟩
    rw [hr2, hr]
    exact (drp_eq hI hR (by omega) (by omega)).symm
  · refine ⟨⟨_, hM 0 _ rfl⟩, Ct.mono (c_X6_drop l E zw hM hI mk is his) (fun v w2 hq => ?_)⟩
    obtain ⟨r2, rfl, ar1, q1, q2, q3, hr2⟩ := hq
    rw [if_neg hno] at q3 hr2
    subst q3
    exact ⟨r2, rfl, by rw [hr2, hr], INV.mk2 h31 hC hQ hs hv q1 q2 hG⟩
set_option maxHeartbeats 4000000 in
set_option maxRecDepth 100000 in
theorem pr_fold (l : Launch) {E : gE} {a b : Nat} {zw : va_W} (hV : INV E a b zw) (mk x y : Int32) : PrI l yX5_fold wsX5_fold ({ frames := 3, cells := 0, slots := 0, locals := 75 }) yX6_fold wsX6_fold ({ frames := 2, cells := 0, slots := 0, locals := 45 }) E a b [.int mk, .int x, .int y] zw 0 0 := by
  have hV0 := hV
  obtain ⟨ca, ad, g, ar, tk, ns, np, na, dr, ch, qe, pl, L0, L1, rfl, rfl, h31, hM, hC, hQ, hs, hv, hG⟩ := hV
  have hI := hG.1
  have hR := hG.2.2.1
  have hb : ns ≤ 120 ∧ np ≤ 2000 ∧ na ≤ 10 := ⟨hI.ser.2, hI.sam.2, hI.ask.2⟩
  have htk := hI.tick.2
  have eg := hI.1.1
  refine ⟨⟨_, hC.1⟩, _, c_X5_fold l E zw hC hb (tk := tk) rfl htk mk x y, fun r w1 hp => ?_⟩
  rcases hp with ⟨hok, hr, k1, k2⟩ | ⟨hno, rfl, hr⟩
  · have hM1 := hM.up (w1 := w1) rfl (fun k z z2 => k2.2 k (by omega) z2)
    refine ⟨⟨_, hM1 0 _ rfl⟩, Ct.mono (c_X6_fold l E w1 hM1 hI mk x y) (fun v w2 hq => ?_)⟩
    obtain ⟨r2, rfl, G, q1, q2, q3⟩ := hq
    rcases q3 with ⟨d1, d2, hr2⟩ | ⟨d1, -, -⟩
    · obtain ⟨⟨h1, h2⟩, ⟨h3, h4⟩, h5, h6⟩ := hok
      obtain ⟨m, hm, rfl⟩ := nI_ex2 (n := 5) h1 h2
      obtain ⟨x9, hx, rfl⟩ := nI_ex2 (n := 7) h3 h4
      obtain ⟨y9, hy, rfl⟩ := nI_ex2 (n := 7) h5 h6
      rw [nI_clamp (n := m) (by omega), nI_clamp (n := x9) (by omega), nI_clamp (n := y9) (by omega)] at hr2
      rw [nI_clamp (n := m) (by omega)] at hr k1
      rw [nI_clamp (n := m) (by omega), nI_clamp (n := x9) (by omega), nI_clamp (n := y9) (by omega)] at d2
      refine ⟨r2, rfl, ?_, INV.mk2 (Nat.le_trans h31 k2.1) (k1.car (fun k z _ _ => va_up_ne _ _ (by omega))) hQ (hs.keep (k2.2 8 (by decide) (by decide)) (k2.2 9 (by decide) (by decide))) (hv.keep (k2.2 10 (by decide) (by decide)) (k2.2 11 (by decide) (by decide))) q1 q2 (hG.fold (by omega) (by omega) (by omega) d2)⟩
      rw [hr2, hr, chf_eq hR (t := tk) (by omega) (by omega) (by omega), chf_eq hR (t := tk) (by omega) (by omega) (by omega), min_eq]
    · exact absurd hok d1
  · refine ⟨⟨_, hM 0 _ rfl⟩, Ct.mono (c_X6_fold l E zw hM hI mk x y) (fun v w2 hq => ?_)⟩
    obtain ⟨r2, rfl, G, q1, q2, q3⟩ := hq
    rcases q3 with ⟨d1, -⟩ | ⟨d1, rfl, hr2⟩
    · exact absurd d1 hno
    · rw [bx_k] at q1
      exact ⟨r2, rfl, by rw [hr2, hr], INV.mk2 h31 hC hQ hs hv q1 q2 hG⟩
set_option maxHeartbeats 4000000 in
set_option maxRecDepth 100000 in
theorem pr_ask (l : Launch) {E : gE} {a b : Nat} {zw : va_W} (hV : INV E a b zw) (mks mk v : Int32) : PrI l yX5_ask wsX5_ask ({ frames := 7, cells := 2, slots := 3005, locals := 171 }) yX6_ask wsX6_ask ({ frames := 2, cells := 0, slots := 0, locals := 45 }) E a b [.int mks, .int mk, .int v] zw 2 3005 := by
  have hV0 := hV
  obtain ⟨ca, ad, g, ar, tk, ns, np, na, dr, ch, qe, pl, L0, L1, rfl, rfl, h31, hM, hC, hQ, hs, hv, hG⟩ := hV
  have hI := hG.1
  have hR := hG.2.2.1
  have hb : ns ≤ 120 ∧ np ≤ 2000 ∧ na ≤ 10 := ⟨hI.ser.2, hI.sam.2, hI.ask.2⟩
  have htk := hI.tick.2
  have eg := hI.1.1
  refine ⟨⟨_, hC.1⟩, _, c_X5_ask l E zw hC hb hQ h31 mks mk v, fun r w1 hp => ?_⟩
  rcases hp with ⟨hok, hr, qe1, pl1, k1, hQ1, k2⟩ | ⟨hno, rfl, hr⟩
  · have hM1 := hM.up (w1 := w1) rfl (fun k z z2 => k2.2 k (by omega) z2)
    refine ⟨⟨_, hM1 0 _ rfl⟩, Ct.mono (c_X6_ask l E w1 hM1 hI mks mk v) (fun v9 w2 hq => ?_)⟩
    obtain ⟨r2, rfl, g1, ar1, q1, q2, q3⟩ := hq
    rcases q3 with ⟨d1, hr2, rfl, rfl⟩ | ⟨d1, -, -, -⟩
    · obtain ⟨q, hq9, rfl⟩ := nI_ex2 (n := 63) hok.1.1 hok.1.2
      refine ⟨r2, rfl, by rw [hr2, hr], INV.mk2 (Nat.le_trans h31 k2.1) k1 hQ1 (hs.keep (k2.2 8 (by decide) (by decide)) (k2.2 9 (by decide) (by decide))) (hv.keep (k2.2 10 (by decide) (by decide)) (k2.2 11 (by decide) (by decide))) q1 q2 (hG.ask hok.2.2 (by omega) (hok.2.1.imp id (fun h => ?_)) _)⟩
      obtain ⟨m, hm, e⟩ := nI_ex2 (n := 5) h.1.1.1 h.1.1.2
      exact ⟨m, by omega, e⟩
    · exact absurd hok d1
  · refine ⟨⟨_, hM 0 _ rfl⟩, Ct.mono (c_X6_ask l E zw hM hI mks mk v) (fun v9 w2 hq => ?_)⟩
    obtain ⟨r2, rfl, g1, ar1, q1, q2, q3⟩ := hq
    rcases q3 with ⟨d1, -⟩ | ⟨d1, rfl, rfl, hr2⟩
    · exact absurd d1 hno
    · exact ⟨r2, rfl, by rw [hr2, hr], INV.mk2 h31 hC hQ hs hv q1 q2 hG⟩
set_option maxHeartbeats 4000000 in
set_option maxRecDepth 100000 in
theorem pr_weigh (l : Launch) {E : gE} {a b : Nat} {zw : va_W} (hV : INV E a b zw) (of x y : Int32) : PrI l yX5_weigh wsX5_weigh ({ frames := 3, cells := 0, slots := 0, locals := 64 }) yX6_weigh wsX6_weigh ({ frames := 2, cells := 0, slots := 0, locals := 46 }) E a b [.int of, .int x, .int y] zw 0 0 := by
  have hV0 := hV
  obtain ⟨ca, ad, g, ar, tk, ns, np, na, dr, ch, qe, pl, L0, L1, rfl, rfl, h31, hM, hC, hQ, hs, hv, hG⟩ := hV
  have hI := hG.1
  have hR := hG.2.2.1
  have hb : ns ≤ 120 ∧ np ≤ 2000 ∧ na ≤ 10 := ⟨hI.ser.2, hI.sam.2, hI.ask.2⟩
  have htk := hI.tick.2
  have eg := hI.1.1
  refine ⟨⟨_, hC.1⟩, _, c_X5_weigh l E zw hC hb of x y, fun r w1 hp => ?_⟩
  rcases hp with ⟨hok, hr, k1, k2⟩ | ⟨hno, rfl, hr⟩
  · have hM1 := hM.up (w1 := w1) rfl (fun k z z2 => k2.2 k (by omega) z2)
    refine ⟨⟨_, hM1 0 _ rfl⟩, Ct.mono (c_X6_weigh l E w1 hM1 hI of x y) (fun v w2 hq => ?_)⟩
    obtain ⟨r2, rfl, ar1, q1, q2, q3, hr2⟩ := hq
    rw [if_pos hok] at q3
    rw [if_pos hok.1, if_pos hok.2] at hr2
    subst q3
    refine ⟨r2, rfl, by rw [hr2, hr], INV.mk2 (Nat.le_trans h31 k2.1) k1 hQ (hs.keep (k2.2 8 (by decide) (by decide)) (k2.2 9 (by decide) (by decide))) (hv.keep (k2.2 10 (by decide) (by decide)) (k2.2 11 (by decide) (by decide))) q1 q2 ?_⟩
    by_cases z : of = 0
    · rw [if_pos z]
      exact (hG.wgh _).1
    · rw [if_neg z]
      exact (hG.wgh _).2
  · refine ⟨⟨_, hM 0 _ rfl⟩, Ct.mono (c_X6_weigh l E zw hM hI of x y) (fun v w2 hq => ?_)⟩
    obtain ⟨r2, rfl, ar1, q1, q2, q3, hr2⟩ := hq
    rw [if_neg hno] at q3
    subst q3
    refine ⟨r2, rfl, ?_, INV.mk2 h31 hC hQ hs hv q1 q2 hG⟩
    rw [hr2, hr]
    refine ite_t (fun h => ?_)
    rw [if_neg (fun z => hno ⟨h, z⟩)]
set_option maxHeartbeats 4000000 in
set_option maxRecDepth 100000 in
theorem pr_tell (l : Launch) {E : gE} {a b : Nat} {zw : va_W} (hV : INV E a b zw) (x y : Int32) : PrI l yX5_tell wsX5_tell ({ frames := 7, cells := 4, slots := 6009, locals := 171 }) yX6_tell wsX6_tell ({ frames := 2, cells := 0, slots := 0, locals := 45 }) E a b [.int x, .int y] zw 4 6009 := by
  have hV0 := hV
  obtain ⟨ca, ad, g, ar, tk, ns, np, na, dr, ch, qe, pl, L0, L1, rfl, rfl, h31, hM, hC, hQ, hs, hv, hG⟩ := hV
  have hI := hG.1
  have hR := hG.2.2.1
  have hb : ns ≤ 120 ∧ np ≤ 2000 ∧ na ≤ 10 := ⟨hI.ser.2, hI.sam.2, hI.ask.2⟩
  have htk := hI.tick.2
  have eg := hI.1.1
  refine ⟨⟨_, hC.1⟩, _, c_X5_tell l E zw hC hb hQ h31 hG.ti x y, fun r w1 hp => ?_⟩
  rcases hp with ⟨hno, rfl, hr⟩ | ⟨hok, j, hj, e1, e2, hp⟩ | ⟨hok, e2, hp⟩
  · refine ⟨⟨_, hM 0 _ rfl⟩, Ct.mono (c_X6_tell l E zw hM hI x y) (fun v w2 hq => ?_)⟩
    obtain ⟨r2, rfl, g1, ar1, q1, q2, q3⟩ := hq
    rcases q3 with ⟨-, rfl, rfl, hr2⟩ | ⟨d, -⟩ | ⟨d, -⟩
    · exact ⟨r2, rfl, by rw [hr2, hr], INV.mk2 h31 hC hQ hs hv q1 q2 hG⟩
    · exact absurd d hno
    · exact absurd d hno
  · rcases hp with ⟨c8, rfl, hr⟩ | ⟨c8, hnp, rfl, hr⟩ | ⟨c8, hnp, hr, qe1, pl1, k1, hQ1, k2⟩
    · refine ⟨⟨_, hM 0 _ rfl⟩, Ct.mono (c_X6_tell l E zw hM hI x y) (fun v w2 hq => ?_)⟩
      obtain ⟨r2, rfl, g1, ar1, q1, q2, q3⟩ := hq
      rcases q3 with ⟨d, -⟩ | ⟨d, j2, d1, d2, d3, d4⟩ | ⟨d, d2, -⟩
      · exact absurd hok d
      · obtain rfl := hI.inj j2 j d1 hj (d2.trans e1.symm)
        rcases d4 with ⟨-, rfl, rfl, hr2⟩ | ⟨d5, -⟩ | ⟨d5, -⟩
        · exact ⟨r2, rfl, by rw [hr2, hr], INV.mk2 h31 hC hQ hs hv q1 q2 hG⟩
        · exact absurd (c8.trans eg.symm) d5
        · exact absurd (c8.trans eg.symm) d5
      · exact absurd e1 (d2 j hj)
    · refine ⟨⟨_, hM 0 _ rfl⟩, Ct.mono (c_X6_tell l E zw hM hI x y) (fun v w2 hq => ?_)⟩
      obtain ⟨r2, rfl, g1, ar1, q1, q2, q3⟩ := hq
      rcases q3 with ⟨d, -⟩ | ⟨d, j2, d1, d2, d3, d4⟩ | ⟨d, d2, -⟩
      · exact absurd hok d
      · obtain rfl := hI.inj j2 j d1 hj (d2.trans e1.symm)
        rcases d4 with ⟨d5, -⟩ | ⟨-, -, rfl, rfl, hr2⟩ | ⟨-, d5, -⟩
        · exact absurd (d5.trans eg) c8
        · exact ⟨r2, rfl, by rw [hr2, hr], INV.mk2 h31 hC hQ hs hv q1 q2 hG⟩
        · omega
      · exact absurd e1 (d2 j hj)
    · have hM1 := hM.up (w1 := w1) rfl (fun k z z2 => k2.2 k (by omega) z2)
      refine ⟨⟨_, hM1 0 _ rfl⟩, Ct.mono (c_X6_tell l E w1 hM1 hI x y) (fun v w2 hq => ?_)⟩
      obtain ⟨r2, rfl, g1, ar1, q1, q2, q3⟩ := hq
      rcases q3 with ⟨d, -⟩ | ⟨d, j2, d1, d2, d3, d4⟩ | ⟨d, d2, -⟩
      · exact absurd hok d
      · obtain rfl := hI.inj j2 j d1 hj (d2.trans e1.symm)
        rcases d4 with ⟨d5, -⟩ | ⟨-, d5, -⟩ | ⟨-, -, hr2, rfl, rfl⟩
        · exact absurd (d5.trans eg) c8
        · omega
        · rw [← eg] at k1
          have hG1 := hG.told hj hnp y
          exact ⟨r2, rfl, by rw [hr2, hr], INV.mk2 (Nat.le_trans h31 k2.1) (by rw [← eg]; exact k1) hQ1 (hs.keep (k2.2 8 (by decide) (by decide)) (k2.2 9 (by decide) (by decide))) (hv.keep (k2.2 10 (by decide) (by decide)) (k2.2 11 (by decide) (by decide))) q1 q2 hG1⟩
      · exact absurd e1 (d2 j hj)
  · rcases hp with ⟨hf, rfl, hr⟩ | ⟨hns, hnp, hr, qe1, pl1, k1, hQ1, k2⟩
    · refine ⟨⟨_, hM 0 _ rfl⟩, Ct.mono (c_X6_tell l E zw hM hI x y) (fun v w2 hq => ?_)⟩
      obtain ⟨r2, rfl, g1, ar1, q1, q2, q3⟩ := hq
      rcases q3 with ⟨d, -⟩ | ⟨d, j2, d1, d2, -⟩ | ⟨d, d2, d4⟩
      · exact absurd hok d
      · exact absurd d2 (e2 j2 d1)
      · rcases d4 with ⟨-, rfl, rfl, hr2⟩ | ⟨d5, d6, -⟩
        · exact ⟨r2, rfl, by rw [hr2, hr], INV.mk2 h31 hC hQ hs hv q1 q2 hG⟩
        · omega
    · have hM1 := hM.up (w1 := w1) rfl (fun k z z2 => k2.2 k (by omega) z2)
      refine ⟨⟨_, hM1 0 _ rfl⟩, Ct.mono (c_X6_tell l E w1 hM1 hI x y) (fun v w2 hq => ?_)⟩
      obtain ⟨r2, rfl, g1, ar1, q1, q2, q3⟩ := hq
      rcases q3 with ⟨d, -⟩ | ⟨d, j2, d1, d2, -⟩ | ⟨d, d2, d4⟩
      · exact absurd hok d
      · exact absurd d2 (e2 j2 d1)
      · rcases d4 with ⟨d5, -⟩ | ⟨-, -, hr2, rfl, rfl⟩
        · omega
        · obtain ⟨n, hn, rfl⟩ := nI_ex2 (n := 262143) hok.1.1 hok.1.2
          rw [← eg] at k1
          have hG1 := hG.tnew hns hnp (n := n) (by omega) e2 y
          exact ⟨r2, rfl, by rw [hr2, hr], INV.mk2 (Nat.le_trans h31 k2.1) (by rw [← eg]; exact k1) hQ1 (hs.keep (k2.2 8 (by decide) (by decide)) (k2.2 9 (by decide) (by decide))) (hv.keep (k2.2 10 (by decide) (by decide)) (k2.2 11 (by decide) (by decide))) q1 q2 hG1⟩
