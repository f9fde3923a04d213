/-! ===== what holds of the reference's numbers through a run ===== -/
def MI (g : Nat → Int32) (ar : Nat → Nat → Int32) (tk ns np na : Nat) : Prop :=
  (g 0 = nI tk ∧ tk ≤ 199) ∧ (g 3 = nI ns ∧ ns ≤ 120) ∧ (g 10 = nI np ∧ np ≤ 2000) ∧ (g 17 = nI na ∧ na ≤ 10) ∧
  (∀ k, k < np → ∃ j, j < ns ∧ ar 11 k = nI j) ∧ (∀ k, k < np → ∃ t, t ≤ tk ∧ ar 12 k = nI t) ∧ (∀ i, i < ns → ∃ n, n < 262144 ∧ ar 4 i = nI n) ∧ (∀ i j, i < ns → j < ns → ar 4 i = ar 4 j → i = j) ∧
  (∀ i, i < 1200 → ar 1 i = 0 ∨ ar 1 i = 1) ∧ (∀ i, i < 9600 → ∃ v, v < 8 ∧ ar 2 i = nI v) ∧ (∀ i, ns ≤ i → i < 120 → ar 5 i = 0) ∧
  (∀ a, a < na → ∃ q, q < 64 ∧ ar 18 a = nI q) ∧ (∀ a, a < na → ar 19 a = (-9) ∨ ∃ q, q < 6 ∧ ar 19 a = nI q)
theorem MI.tick {g : Nat → Int32} {ar : Nat → Nat → Int32} {tk ns np na : Nat} (h : MI g ar tk ns np na) : (g 0).toInt = tk ∧ tk ≤ 199 := ⟨by rw [h.1.1, nI_toInt (by have := h.1.2; omega)], h.1.2⟩
theorem MI.ser {g : Nat → Int32} {ar : Nat → Nat → Int32} {tk ns np na : Nat} (h : MI g ar tk ns np na) : (g 3).toInt = ns ∧ ns ≤ 120 := ⟨by rw [h.2.1.1, nI_toInt (by have := h.2.1.2; omega)], h.2.1.2⟩
theorem MI.sam {g : Nat → Int32} {ar : Nat → Nat → Int32} {tk ns np na : Nat} (h : MI g ar tk ns np na) : (g 10).toInt = np ∧ np ≤ 2000 := ⟨by rw [h.2.2.1.1, nI_toInt (by have := h.2.2.1.2; omega)], h.2.2.1.2⟩
theorem MI.ask {g : Nat → Int32} {ar : Nat → Nat → Int32} {tk ns np na : Nat} (h : MI g ar tk ns np na) : (g 17).toInt = na ∧ na ≤ 10 := ⟨by rw [h.2.2.2.1.1, nI_toInt (by have := h.2.2.2.1.2; omega)], h.2.2.2.1.2⟩
theorem MI.of {g : Nat → Int32} {ar : Nat → Nat → Int32} {tk ns np na : Nat} (h : MI g ar tk ns np na) : ∀ k, k < np → ∃ j, j < ns ∧ ar 11 k = nI j := h.2.2.2.2.1
theorem MI.at {g : Nat → Int32} {ar : Nat → Nat → Int32} {tk ns np na : Nat} (h : MI g ar tk ns np na) : ∀ k, k < np → ∃ t, t ≤ tk ∧ ar 12 k = nI t := h.2.2.2.2.2.1
theorem MI.nam {g : Nat → Int32} {ar : Nat → Nat → Int32} {tk ns np na : Nat} (h : MI g ar tk ns np na) : ∀ i, i < ns → ∃ n, n < 262144 ∧ ar 4 i = nI n := h.2.2.2.2.2.2.1
theorem MI.inj {g : Nat → Int32} {ar : Nat → Nat → Int32} {tk ns np na : Nat} (h : MI g ar tk ns np na) : ∀ i j, i < ns → j < ns → ar 4 i = ar 4 j → i = j := h.2.2.2.2.2.2.2.1
theorem MI.dr {g : Nat → Int32} {ar : Nat → Nat → Int32} {tk ns np na : Nat} (h : MI g ar tk ns np na) : ∀ i, i < 1200 → ar 1 i = 0 ∨ ar 1 i = 1 := h.2.2.2.2.2.2.2.2.1
theorem MI.ch {g : Nat → Int32} {ar : Nat → Nat → Int32} {tk ns np na : Nat} (h : MI g ar tk ns np na) : ∀ i, i < 9600 → ∃ v, v < 8 ∧ ar 2 i = nI v := h.2.2.2.2.2.2.2.2.2.1
theorem MI.man {g : Nat → Int32} {ar : Nat → Nat → Int32} {tk ns np na : Nat} (h : MI g ar tk ns np na) : ∀ i, ns ≤ i → i < 120 → ar 5 i = 0 := h.2.2.2.2.2.2.2.2.2.2.1
theorem MI.par {g : Nat → Int32} {ar : Nat → Nat → Int32} {tk ns np na : Nat} (h : MI g ar tk ns np na) : ∀ a, a < na → ∃ q, q < 64 ∧ ar 18 a = nI q := h.2.2.2.2.2.2.2.2.2.2.2.1
theorem MI.wan {g : Nat → Int32} {ar : Nat → Nat → Int32} {tk ns np na : Nat} (h : MI g ar tk ns np na) : ∀ a, a < na → ar 19 a = (-9) ∨ ∃ q, q < 6 ∧ ar 19 a = nI q := h.2.2.2.2.2.2.2.2.2.2.2.2
theorem MI.ser1 {g : Nat → Int32} {ar : Nat → Nat → Int32} {tk ns np na : Nat} (h : MI g ar tk ns np na) : (g 3 - 1).toInt = (ns : Int) - 1 := by rw [fb_subI (by rw [h.ser.1, ti_1]; omega) (by rw [h.ser.1, ti_1]; have := h.ser.2; omega), h.ser.1, ti_1]
theorem MI.ask1 {g : Nat → Int32} {ar : Nat → Nat → Int32} {tk ns np na : Nat} (h : MI g ar tk ns np na) : (g 17 - 1).toInt = (na : Int) - 1 := by rw [fb_subI (by rw [h.ask.1, ti_1]; omega) (by rw [h.ask.1, ti_1]; have := h.ask.2; omega), h.ask.1, ti_1]
/-- the first place of x, from i on -/
def splF (f : Nat → Int32) (x : Int32) : Nat → Nat → Int32
  | 0, _ => -9
  | n + 1, i => if f i = x then nI i else splF f x n (i + 1)
def spl (f : Nat → Int32) (x : Int32) (n : Nat) : Int32 := splF f x n 0
/-- a sum over the samples that are wanted -/
def smL (p : Nat → Bool) (f : Nat → Int32) : Nat → Int64
  | 0 => 0
  | k + 1 => smL p f k + (bif p k then (f k).toInt64 else 0)
def inSp (f : Nat → Int32) (a b : Int32) (k : Nat) : Bool := decide (a.toInt ≤ (f k).toInt ∧ (f k).toInt ≤ b.toInt)
theorem inSp_lt {f : Nat → Int32} {a b : Int32} {k : Nat} (h : f k < a) : inSp f a b k = false := by
  simp only [inSp, decide_eq_false_iff_not]
  rw [fa_lt] at h
  omega
theorem inSp_gt {f : Nat → Int32} {a b : Int32} {k : Nat} (h : b < f k) : inSp f a b k = false := by
  simp only [inSp, decide_eq_false_iff_not]
  rw [fa_lt] at h
  omega
theorem inSp_in {f : Nat → Int32} {a b : Int32} {k : Nat} (h : ¬ f k < a) (h2 : ¬ b < f k) : inSp f a b k = true := by
  simp only [inSp, decide_eq_true_eq]
  rw [fa_lt] at h h2
  omega
theorem smL_t {p : Nat → Bool} {f : Nat → Int32} {k : Nat} (h : p k = true) : smL p f (k + 1) = smL p f k + (f k).toInt64 := by simp [smL, h]
theorem smL_f {p : Nat → Bool} {f : Nat → Int32} {k : Nat} (h : p k = false) : smL p f (k + 1) = smL p f k + 0 := by simp [smL, h]
theorem inX6_isSpan_X6 : ∀ x ∈ wsX60, x ∈ wsX6_isSpan := by decide +kernel
theorem kwX6_isSpan_65 : Cond.fieldLink RX6 65 "SeriesMarksModel" "tick" "I" ∈ wsX6_isSpan := by decide +kernel
set_option maxHeartbeats 4000000 in
set_option maxRecDepth 100000 in
theorem c_X6_isSpan (l : Launch) (E : gE) (zw : va_W) {ad : Nat → Nat} {g : Nat → Int32} {ar : Nat → Nat → Int32} (hM : mAt zw (mcl E ad g ar)) (f t : Int32) : CtI l yX6_isSpan wsX6_isSpan ({ frames := 1, cells := 0, slots := 0, locals := 25 }) E [.ref (ad 0), .int f, .int t] zw (fun r w1 => zw = w1 ∧ r = b01 (0 ≤ t.toInt ∧ t.toInt ≤ (g 0).toInt ∧ 0 ≤ f.toInt ∧ f.toInt ≤ t.toInt)) 0 0 := by
  refine Ct.of (cc := cX6_isSpan) (nL := 3) (ret := (some .boolean)) (by decide) rfl (Nat.le_of_ble_eq_true rfl) ?_
  intro p e s m args below meth c C hr hnm
  refine v_eqlv (lv9 := [(0, .ref (ad 0)), (1, .int f), (2, .int t)]) rfl ?_
  refine v_iload_n C dX6_isSpan_0 rfl rfl ?_
  refine v_i2l C dX6_isSpan_1 rfl ?_
  refine v_lconst (v := 0) C dX6_isSpan_2 (by decide) ?_
  refine v_aload_n C dX6_isSpan_3 rfl rfl ?_
  refine vm_get (v := .int (g 0)) C hM inX6_isSpan_X6 0 (by decide) kwX6_isSpan_65 rfl rfl dX6_isSpan_4 ?_
  refine v_i2l C dX6_isSpan_7 rfl ?_
  refine v_callSi C (c_X6_in l E zw _ _ _) (va_cwS 3 C.1.2.2.2.2 gX6_isSpan_X6_in rfl rfl rfl (by decide +kernel) ⟨by decide, by decide⟩) rfl rfl (Nat.le_of_ble_eq_true rfl) dX6_isSpan_8 ⟨Nat.le_of_ble_eq_true rfl, Nat.le_of_ble_eq_true rfl⟩ (fun r w1 hp => ?_)
  obtain ⟨rfl, rfl⟩ := hp
  refine v_if_eq (tgt := 29) C dX6_isSpan_11 (by decide) (fun c11 => ?_) (fun c11 => ?_)
  · have c11 := b01_0 c11
    simp only [t64, tl_0] at c11
    refine v_iconst (v := 0) C dX6_isSpan_29 (by decide) ?_
    exact v_zret C hr dX6_isSpan_30 (by decide) (Nat.le_refl _) (Nat.le_refl _) ⟨_, rfl, ⟨rfl, (by first | exact (b01_t (by omega)).symm | exact (b01_f (by omega)).symm)⟩⟩
  · have c11 := b01_n c11
    simp only [t64, tl_0] at c11
    refine v_iload_n C dX6_isSpan_14 rfl rfl ?_
    refine v_i2l C dX6_isSpan_15 rfl ?_
    refine v_lconst (v := 0) C dX6_isSpan_16 (by decide) ?_
    refine v_iload_n C dX6_isSpan_17 rfl rfl ?_
    refine v_i2l C dX6_isSpan_18 rfl ?_
    refine v_callSi C (c_X6_in l E zw _ _ _) (va_cwS 3 C.1.2.2.2.2 gX6_isSpan_X6_in rfl rfl rfl (by decide +kernel) ⟨by decide, by decide⟩) rfl rfl (Nat.le_of_ble_eq_true rfl) dX6_isSpan_19 ⟨Nat.le_of_ble_eq_true rfl, Nat.le_of_ble_eq_true rfl⟩ (fun r w1 hp => ?_)
    obtain ⟨rfl, rfl⟩ := hp
    refine v_if_eq (tgt := 29) C dX6_isSpan_22 (by decide) (fun c22 => ?_) (fun c22 => ?_)
    · have c22 := b01_0 c22
      simp only [t64, tl_0] at c22
      refine v_iconst (v := 0) C dX6_isSpan_29 (by decide) ?_
      exact v_zret C hr dX6_isSpan_30 (by decide) (Nat.le_refl _) (Nat.le_refl _) ⟨_, rfl, ⟨rfl, (by first | exact (b01_t (by omega)).symm | exact (b01_f (by omega)).symm)⟩⟩
    · have c22 := b01_n c22
      simp only [t64, tl_0] at c22
      refine v_iconst (v := 1) C dX6_isSpan_25 (by decide) ?_
      refine v_goto (tgt := 30) C dX6_isSpan_26 (by decide) ?_
      exact v_zret C hr dX6_isSpan_30 (by decide) (Nat.le_refl _) (Nat.le_refl _) ⟨_, rfl, ⟨rfl, (by first | exact (b01_t (by omega)).symm | exact (b01_f (by omega)).symm)⟩⟩
theorem inX6_isAsking_X6 : ∀ x ∈ wsX60, x ∈ wsX6_isAsking := by decide +kernel
theorem kwX6_isAsking_140 : Cond.fieldLink RX6 140 "SeriesMarksModel" "askings" "I" ∈ wsX6_isAsking := by decide +kernel
set_option maxHeartbeats 4000000 in
set_option maxRecDepth 100000 in
theorem c_X6_isAsking (l : Launch) (E : gE) (zw : va_W) {ad : Nat → Nat} {g : Nat → Int32} {ar : Nat → Nat → Int32} (hM : mAt zw (mcl E ad g ar)) {tk ns np na : Nat} (hI : MI g ar tk ns np na) (x : Int32) : CtI l yX6_isAsking wsX6_isAsking ({ frames := 1, cells := 0, slots := 0, locals := 25 }) E [.ref (ad 0), .int x] zw (fun r w1 => zw = w1 ∧ r = b01 (0 ≤ x.toInt ∧ x.toInt < na)) 0 0 := by
  refine Ct.of (cc := cX6_isAsking) (nL := 2) (ret := (some .boolean)) (by decide) rfl (Nat.le_of_ble_eq_true rfl) ?_
  intro p e s m args below meth c C hr hnm
  refine v_eqlv (lv9 := [(0, .ref (ad 0)), (1, .int x)]) rfl ?_
  refine v_iload_n C dX6_isAsking_0 rfl rfl ?_
  refine v_i2l C dX6_isAsking_1 rfl ?_
  refine v_lconst (v := 0) C dX6_isAsking_2 (by decide) ?_
  refine v_aload_n C dX6_isAsking_3 rfl rfl ?_
  refine vm_get (v := .int (g 17)) C hM inX6_isAsking_X6 17 (by decide) kwX6_isAsking_140 rfl rfl dX6_isAsking_4 ?_
  refine v_iconst (v := 1) C dX6_isAsking_7 (by decide) ?_
  refine v_isub C dX6_isAsking_8 ?_
  refine v_i2l C dX6_isAsking_9 rfl ?_
  refine v_callSi C (c_X6_in l E zw _ _ _) (va_cwS 3 C.1.2.2.2.2 gX6_isAsking_X6_in rfl rfl rfl (by decide +kernel) ⟨by decide, by decide⟩) rfl rfl (Nat.le_of_ble_eq_true rfl) dX6_isAsking_10 ⟨Nat.le_of_ble_eq_true rfl, Nat.le_of_ble_eq_true rfl⟩ (fun r w1 hp => ?_)
  obtain ⟨rfl, rfl⟩ := hp
  refine v_at (pc9 := 13) rfl ?_
  exact v_zret C hr dX6_isAsking_13 (b01_or _) (Nat.le_refl _) (Nat.le_refl _) ⟨_, rfl, ⟨rfl, b01_c (by rw [t64, t64, tl_0, hI.ask1]; omega)⟩⟩
theorem inX6_isWanted_X6 : ∀ x ∈ wsX60, x ∈ wsX6_isWanted := by decide +kernel
theorem kwX6_isWanted_53 : Cond.fieldLink RX6 53 "SeriesMarksModel" "wantedMark" "[I" ∈ wsX6_isWanted := by decide +kernel
theorem kwX6_isWanted_56 : Cond.fieldLink RX6 56 "SeriesMarksModel" "wantedValue" "[I" ∈ wsX6_isWanted := by decide +kernel
set_option maxHeartbeats 4000000 in
set_option maxRecDepth 100000 in
theorem c_X6_isWanted (l : Launch) (E : gE) (zw : va_W) {ad : Nat → Nat} {g : Nat → Int32} {ar : Nat → Nat → Int32} (hM : mAt zw (mcl E ad g ar)) {tk ns np na : Nat} (hI : MI g ar tk ns np na) (a x : Int32) (h1 : 0 ≤ a.toInt) (h2 : a.toInt < na) : CtI l yX6_isWanted wsX6_isWanted ({ frames := 1, cells := 0, slots := 0, locals := 21 }) E [.ref (ad 0), .int a, .int x] zw (fun r w1 => zw = w1 ∧ r = b01 (ar 19 a.toNatClampNeg = (-9) ∨ dgt x (ar 19 a.toNatClampNeg) = ar 20 a.toNatClampNeg)) 0 0 := by
  refine Ct.of (cc := cX6_isWanted) (nL := 3) (ret := (some .boolean)) (by decide) rfl (Nat.le_of_ble_eq_true rfl) ?_
  intro p e s m args below meth c C hr hnm
  refine v_eqlv (lv9 := [(0, .ref (ad 0)), (1, .int a), (2, .int x)]) rfl ?_
  refine v_aload_n C dX6_isWanted_0 rfl rfl ?_
  refine vm_get (v := .ref (ad 19)) C hM inX6_isWanted_X6 19 (by decide) kwX6_isWanted_53 rfl rfl dX6_isWanted_1 ?_
  refine v_iload_n C dX6_isWanted_4 rfl rfl ?_
  refine vm_iald (f := ar 19) C hM 15 rfl (in_of (by omega) (by have := hI.ask.2; omega)) dX6_isWanted_5 ?_
  refine v_bipush (v := (-9)) C dX6_isWanted_6 (by decide) ?_
  refine v_icmp_eq (tgt := 30) C dX6_isWanted_8 (by decide) (fun c8 => ?_) (fun c8 => ?_)
  · refine v_iconst (v := 1) C dX6_isWanted_30 (by decide) ?_
    refine v_goto (tgt := 35) C dX6_isWanted_31 (by decide) ?_
    exact v_zret C hr dX6_isWanted_35 (by decide) (Nat.le_refl _) (Nat.le_refl _) ⟨_, rfl, ⟨rfl, (by first | exact (b01_t (Or.inl c8)).symm | exact (b01_t (Or.inr (Decidable.of_not_not c27))).symm | exact (b01_t (Or.inr c27)).symm | exact (b01_f (fun h => h.elim c8 c27)).symm)⟩⟩
  · refine v_iload_n C dX6_isWanted_11 rfl rfl ?_
    refine v_aload_n C dX6_isWanted_12 rfl rfl ?_
    refine vm_get (v := .ref (ad 19)) C hM inX6_isWanted_X6 19 (by decide) kwX6_isWanted_53 rfl rfl dX6_isWanted_13 ?_
    refine v_iload_n C dX6_isWanted_16 rfl rfl ?_
    refine vm_iald (f := ar 19) C hM 15 rfl (in_of (by omega) (by have := hI.ask.2; omega)) dX6_isWanted_17 ?_
    refine v_callSi C (c_X6_digit l E zw _ _) (va_cwS 2 C.1.2.2.2.2 gX6_isWanted_X6_digit rfl rfl rfl (by decide +kernel) ⟨by decide, by decide⟩) rfl rfl (Nat.le_of_ble_eq_true rfl) dX6_isWanted_18 ⟨Nat.le_of_ble_eq_true rfl, Nat.le_of_ble_eq_true rfl⟩ (fun r w1 hp => ?_)
    obtain ⟨rfl, rfl⟩ := hp
    refine v_aload_n C dX6_isWanted_21 rfl rfl ?_
    refine vm_get (v := .ref (ad 20)) C hM inX6_isWanted_X6 20 (by decide) kwX6_isWanted_56 rfl rfl dX6_isWanted_22 ?_
    refine v_iload_n C dX6_isWanted_25 rfl rfl ?_
    refine v_at (pc9 := 26) rfl ?_
    refine vm_iald (f := ar 20) C hM 16 rfl (in_of (by omega) (by have := hI.ask.2; omega)) dX6_isWanted_26 ?_
    refine v_icmp_ne (tgt := 34) C dX6_isWanted_27 (by decide) (fun c27 => ?_) (fun c27 => ?_)
    · refine v_iconst (v := 0) C dX6_isWanted_34 (by decide) ?_
      exact v_zret C hr dX6_isWanted_35 (by decide) (Nat.le_refl _) (Nat.le_refl _) ⟨_, rfl, ⟨rfl, (by first | exact (b01_t (Or.inl c8)).symm | exact (b01_t (Or.inr (Decidable.of_not_not c27))).symm | exact (b01_t (Or.inr c27)).symm | exact (b01_f (fun h => h.elim c8 c27)).symm)⟩⟩
    · refine v_iconst (v := 1) C dX6_isWanted_30 (by decide) ?_
      refine v_goto (tgt := 35) C dX6_isWanted_31 (by decide) ?_
      exact v_zret C hr dX6_isWanted_35 (by decide) (Nat.le_refl _) (Nat.le_refl _) ⟨_, rfl, ⟨rfl, (by first | exact (b01_t (Or.inl c8)).symm | exact (b01_t (Or.inr (Decidable.of_not_not c27))).symm | exact (b01_t (Or.inr c27)).symm | exact (b01_f (fun h => h.elim c8 c27)).symm)⟩⟩
theorem inX6_keyOf_X6 : ∀ x ∈ wsX60, x ∈ wsX6_keyOf := by decide +kernel
theorem kwX6_keyOf_50 : Cond.fieldLink RX6 50 "SeriesMarksModel" "parts" "[I" ∈ wsX6_keyOf := by decide +kernel
set_option maxHeartbeats 4000000 in
set_option maxRecDepth 100000 in
theorem c_X6_keyOf (l : Launch) (E : gE) (zw : va_W) {ad : Nat → Nat} {g : Nat → Int32} {ar : Nat → Nat → Int32} (hM : mAt zw (mcl E ad g ar)) {tk ns np na : Nat} (hI : MI g ar tk ns np na) (a x : Int32) (h1 : 0 ≤ a.toInt) (h2 : a.toInt < na) : CtI l yX6_keyOf wsX6_keyOf ({ frames := 1, cells := 0, slots := 0, locals := 23 }) E [.ref (ad 0), .int a, .int x] zw (fun r w1 => zw = w1 ∧ r = woI x (63 &&& (ar 18 a.toNatClampNeg ^^^ (-1))) 6) 0 0 := by
  refine Ct.of (cc := cX6_keyOf) (nL := 3) (ret := (some .int)) (by decide) rfl (Nat.le_of_ble_eq_true rfl) ?_
  intro p e s m args below meth c C hr hnm
  refine v_eqlv (lv9 := [(0, .ref (ad 0)), (1, .int a), (2, .int x)]) rfl ?_
  refine v_iload_n C dX6_keyOf_0 rfl rfl ?_
  refine v_bipush (v := 63) C dX6_keyOf_1 (by decide) ?_
  refine v_aload_n C dX6_keyOf_3 rfl rfl ?_
  refine vm_get (v := .ref (ad 18)) C hM inX6_keyOf_X6 18 (by decide) kwX6_keyOf_50 rfl rfl dX6_keyOf_4 ?_
  refine v_iload_n C dX6_keyOf_7 rfl rfl ?_
  refine vm_iald (f := ar 18) C hM 14 rfl (in_of (by omega) (by have := hI.ask.2; omega)) dX6_keyOf_8 ?_
  refine v_iconst (v := (-1)) C dX6_keyOf_9 (by decide) ?_
  refine v_ixor C dX6_keyOf_10 ?_
  refine v_iand C dX6_keyOf_11 ?_
  refine v_at (pc9 := 12) rfl ?_
  refine v_callSi C (c_X6_without l E zw _ _) (va_cwS 2 C.1.2.2.2.2 gX6_keyOf_X6_without rfl rfl rfl (by decide +kernel) ⟨by decide, by decide⟩) rfl rfl (Nat.le_of_ble_eq_true rfl) dX6_keyOf_12 ⟨Nat.le_of_ble_eq_true rfl, Nat.le_of_ble_eq_true rfl⟩ (fun r w1 hp => ?_)
  obtain ⟨rfl, rfl⟩ := hp
  exact v_iret C hr dX6_keyOf_15 (Nat.le_refl _) (Nat.le_refl _) ⟨_, rfl, ⟨rfl, rfl⟩⟩
theorem inX6_place_X6 : ∀ x ∈ wsX60, x ∈ wsX6_place := by decide +kernel
theorem kwX6_place_81 : Cond.fieldLink RX6 81 "SeriesMarksModel" "series" "I" ∈ wsX6_place := by decide +kernel
theorem kwX6_place_17 : Cond.fieldLink RX6 17 "SeriesMarksModel" "name" "[I" ∈ wsX6_place := by decide +kernel
set_option maxHeartbeats 4000000 in
set_option maxRecDepth 100000 in
theorem lp_X6_place {p : Program} {l : Launch} {e : Env} {R : Room} {s : State} {m : MethodId} {args : Array Value} {below : List Frame} {meth : Method} {c : Code} {E : gE} {zw : va_W} (C : gC p s m args meth c E cX6_place 3 wsX6_place yX6_place.cls) (hr : meth.sig.returnType = some .int) {ad : Nat → Nat} {g : Nat → Int32} {ar : Nat → Nat → Int32} (hM : mAt zw (mcl E ad g ar)) {tk ns np na : Nat} (hI : MI g ar tk ns np na) (x : Int32) : ∀ n i : Nat, i + n = ns → splF (ar 4) x n i = spl (ar 4) x ns → V p l e R s m args below meth c E 3 zw 0 0 (MQ below (gQ E (fun v w1 => ∃ r : Int32, v = some (.int r) ∧ (zw = w1 ∧ r = spl (ar 4) x ns))) args s 0 0 (gA E)) 2 [(0, .ref (ad 0)), (1, .int x), (2, .int (nI i))] [] := by
  intro n
  induction n with
  | zero =>
    intro i hi hR
    obtain rfl : i = ns := by omega
    refine v_iload_n C dX6_place_2 rfl rfl ?_
    refine v_aload_n C dX6_place_3 rfl rfl ?_
    refine vm_get (v := .int (g 3)) C hM inX6_place_X6 3 (by decide) kwX6_place_81 rfl rfl dX6_place_4 ?_
    refine v_icmp_ge (tgt := 28) C dX6_place_7 (by decide) (fun c7 => ?_) (fun c7 => absurd (by rw [hI.2.1.1]; exact nI_le (Nat.le_refl _) (by have := hI.ser.2; omega)) c7)
    refine v_bipush (v := (-9)) C dX6_place_28 (by decide) ?_
    exact v_iret C hr dX6_place_30 (Nat.le_refl _) (Nat.le_refl _) ⟨_, rfl, ⟨rfl, hR⟩⟩
  | succ n ih =>
    intro i hi hR
    refine v_iload_n C dX6_place_2 rfl rfl ?_
    refine v_aload_n C dX6_place_3 rfl rfl ?_
    refine vm_get (v := .int (g 3)) C hM inX6_place_X6 3 (by decide) kwX6_place_81 rfl rfl dX6_place_4 ?_
    refine v_icmp_ge (tgt := 28) C dX6_place_7 (by decide) (fun c7 => absurd c7 (by rw [hI.2.1.1]; exact nI_ge (by omega) (by have := hI.ser.2; omega))) (fun c7 => ?_)
    refine v_aload_n C dX6_place_10 rfl rfl ?_
    refine vm_get (v := .ref (ad 4)) C hM inX6_place_X6 4 (by decide) kwX6_place_17 rfl rfl dX6_place_11 ?_
    refine v_iload_n C dX6_place_14 rfl rfl ?_
    refine vm_iald (f := ar 4) C hM 3 rfl (vp_in_nI (by have := hI.ser.2; omega) (by decide)) dX6_place_15 ?_
    rw [nI_clamp (show i < 2 ^ 31 by have := hI.ser.2; omega)]
    refine v_iload_n C dX6_place_16 rfl rfl ?_
    refine v_at (pc9 := 17) rfl ?_
    refine v_icmp_ne (tgt := 22) C dX6_place_17 (by decide) (fun c17 => ?_) (fun c17 => ?_)
    · refine v_iincN C dX6_place_22 rfl (by decide) rfl ?_
      refine v_goto (tgt := 2) C dX6_place_25 (by decide) ?_
      exact ih (i + 1) (by omega) (by rw [← hR]; exact (if_neg c17).symm)
    · refine v_iload_n C dX6_place_20 rfl rfl ?_
      exact v_iret C hr dX6_place_21 (Nat.le_refl _) (Nat.le_refl _) ⟨_, rfl, ⟨rfl, by rw [← hR]; exact (if_pos c17).symm⟩⟩
set_option maxHeartbeats 4000000 in
set_option maxRecDepth 100000 in
theorem c_X6_place (l : Launch) (E : gE) (zw : va_W) {ad : Nat → Nat} {g : Nat → Int32} {ar : Nat → Nat → Int32} (hM : mAt zw (mcl E ad g ar)) {tk ns np na : Nat} (hI : MI g ar tk ns np na) (x : Int32) : CtI l yX6_place wsX6_place ({ frames := 0, cells := 0, slots := 0, locals := 0 }) E [.ref (ad 0), .int x] zw (fun r w1 => zw = w1 ∧ r = spl (ar 4) x ns) 0 0 := by
  refine Ct.of (cc := cX6_place) (nL := 3) (ret := (some .int)) (by decide) rfl (Nat.le_of_ble_eq_true rfl) ?_
  intro p e s m args below meth c C hr hnm
  refine v_eqlv (lv9 := [(0, .ref (ad 0)), (1, .int x)]) rfl ?_
  refine v_iconst (v := 0) C dX6_place_0 (by decide) ?_
  refine v_tov nI_0.symm ?_
  refine v_istore_n C dX6_place_1 rfl (by decide) rfl ?_
  exact lp_X6_place C hr hM hI x ns 0 (Nat.zero_add _) rfl
set_option maxHeartbeats 4000000 in
set_option maxRecDepth 100000 in
theorem c_X6_find (l : Launch) (E : gE) (zw : va_W) {ad : Nat → Nat} {g : Nat → Int32} {ar : Nat → Nat → Int32} (hM : mAt zw (mcl E ad g ar)) {tk ns np na : Nat} (hI : MI g ar tk ns np na) (x : Int32) : CtI l yX6_find wsX6_find ({ frames := 2, cells := 0, slots := 0, locals := 45 }) E [.ref (ad 0), .int x] zw (fun r w1 => zw = w1 ∧ r = if 0 ≤ x.toInt ∧ x.toInt ≤ 262143 then spl (ar 4) x ns else (-2)) 0 0 := by
  refine Ct.of (cc := cX6_find) (nL := 2) (ret := (some .int)) (by decide) rfl (Nat.le_of_ble_eq_true rfl) ?_
  intro p e s m args below meth c C hr hnm
  refine v_eqlv (lv9 := [(0, .ref (ad 0)), (1, .int x)]) rfl ?_
  refine v_iload_n C dX6_find_0 rfl rfl ?_
  refine v_callSi C (c_X6_isName l E zw _) (va_cwS 1 C.1.2.2.2.2 gX6_find_X6_isName rfl rfl rfl (by decide +kernel) ⟨by decide, by decide⟩) rfl rfl (Nat.le_of_ble_eq_true rfl) dX6_find_1 ⟨Nat.le_of_ble_eq_true rfl, Nat.le_of_ble_eq_true rfl⟩ (fun r w1 hp => ?_)
  obtain ⟨rfl, rfl⟩ := hp
  refine v_if_eq (tgt := 15) C dX6_find_4 (by decide) (fun c4 => ?_) (fun c4 => ?_)
  · have c4 := b01_0 c4
    refine v_bipush (v := (-2)) C dX6_find_15 (by decide) ?_
    exact v_iret C hr dX6_find_17 (Nat.le_refl _) (Nat.le_refl _) ⟨_, rfl, ⟨rfl, (by first | exact (if_pos c4).symm | exact (if_neg c4).symm)⟩⟩
  · have c4 := b01_n c4
    refine v_aload_n C dX6_find_7 rfl rfl ?_
    refine v_iload_n C dX6_find_8 rfl rfl ?_
    refine v_callVi C (c_X6_place l E zw hM hI _) (cwV 1 C.1.2.2.2.2 gX6_find_X6_place rfl rfl rfl (by decide +kernel) ⟨by decide, by decide⟩) 12 7 (hM 0 _ rfl) rfl rfl rfl (Nat.le_of_ble_eq_true rfl) dX6_find_9 ⟨Nat.le_of_ble_eq_true rfl, Nat.le_of_ble_eq_true rfl⟩ (fun r w1 hp => ?_)
    obtain ⟨rfl, rfl⟩ := hp
    refine v_goto (tgt := 17) C dX6_find_12 (by decide) ?_
    exact v_iret C hr dX6_find_17 (Nat.le_refl _) (Nat.le_refl _) ⟨_, rfl, ⟨rfl, (by first | exact (if_pos c4).symm | exact (if_neg c4).symm)⟩⟩
theorem inX6_growthOf_X6 : ∀ x ∈ wsX60, x ∈ wsX6_growthOf := by decide +kernel
theorem kwX6_growthOf_94 : Cond.fieldLink RX6 94 "SeriesMarksModel" "samples" "I" ∈ wsX6_growthOf := by decide +kernel
theorem kwX6_growthOf_35 : Cond.fieldLink RX6 35 "SeriesMarksModel" "of" "[I" ∈ wsX6_growthOf := by decide +kernel
theorem kwX6_growthOf_38 : Cond.fieldLink RX6 38 "SeriesMarksModel" "at" "[I" ∈ wsX6_growthOf := by decide +kernel
theorem kwX6_growthOf_41 : Cond.fieldLink RX6 41 "SeriesMarksModel" "grown" "[I" ∈ wsX6_growthOf := by decide +kernel
set_option maxHeartbeats 4000000 in
set_option maxRecDepth 100000 in
theorem lp_X6_growthOf {p : Program} {l : Launch} {e : Env} {R : Room} {s : State} {m : MethodId} {args : Array Value} {below : List Frame} {meth : Method} {c : Code} {cells slots : Nat} {Q : State → Prop} {E : gE} {zw : va_W} (C : gC p s m args meth c E cX6_growthOf 7 wsX6_growthOf yX6_growthOf.cls) {ad : Nat → Nat} {g : Nat → Int32} {ar : Nat → Nat → Int32} (hM : mAt zw (mcl E ad g ar)) {tk ns np na : Nat} (hI : MI g ar tk ns np na) {i0 f t : Int32} (hK : V p l e R s m args below meth c E 7 zw cells slots Q 71 [(0, .ref (ad 0)), (1, .int i0), (2, .int f), (3, .int t), (4, .long (smL (fun k => decide (ar 11 k = i0) && inSp (ar 12) f t k) (ar 13) np)), (6, .int (nI np))] []) : ∀ n i : Nat, i + n = np → V p l e R s m args below meth c E 7 zw cells slots Q 6 [(0, .ref (ad 0)), (1, .int i0), (2, .int f), (3, .int t), (4, .long (smL (fun k => decide (ar 11 k = i0) && inSp (ar 12) f t k) (ar 13) i)), (6, .int (nI i))] [] := by
  intro n
  induction n with
  | zero =>
    intro i hi
    obtain rfl : i = np := by omega
    refine v_iload C dX6_growthOf_6 rfl ?_
    refine v_aload_n C dX6_growthOf_8 rfl rfl ?_
    refine vm_get (v := .int (g 10)) C hM inX6_growthOf_X6 10 (by decide) kwX6_growthOf_94 rfl rfl dX6_growthOf_9 ?_
    refine v_icmp_ge (tgt := 71) C dX6_growthOf_12 (by decide) (fun c12 => ?_) (fun c12 => absurd (by rw [hI.2.2.1.1]; exact nI_le (Nat.le_refl _) (by have := hI.sam.2; omega)) c12)
    exact hK
  | succ n ih =>
    intro i hi
    refine v_iload C dX6_growthOf_6 rfl ?_
    refine v_aload_n C dX6_growthOf_8 rfl rfl ?_
    refine vm_get (v := .int (g 10)) C hM inX6_growthOf_X6 10 (by decide) kwX6_growthOf_94 rfl rfl dX6_growthOf_9 ?_
    refine v_icmp_ge (tgt := 71) C dX6_growthOf_12 (by decide) (fun c12 => absurd c12 (by rw [hI.2.2.1.1]; exact nI_ge (by omega) (by have := hI.sam.2; omega))) (fun c12 => ?_)
    refine v_lload C dX6_growthOf_15 rfl ?_
    refine v_aload_n C dX6_growthOf_17 rfl rfl ?_
    refine vm_get (v := .ref (ad 11)) C hM inX6_growthOf_X6 11 (by decide) kwX6_growthOf_35 rfl rfl dX6_growthOf_18 ?_
    refine v_iload C dX6_growthOf_21 rfl ?_
    refine vm_iald (f := ar 11) C hM 9 rfl (vp_in_nI (by have := hI.sam.2; omega) (by decide)) dX6_growthOf_23 ?_
    refine v_at (pc9 := 24) rfl ?_
    rw [nI_clamp (show i < 2 ^ 31 by have := hI.sam.2; omega)]
    refine v_iload_n C dX6_growthOf_24 rfl rfl ?_
    refine v_icmp_ne (tgt := 61) C dX6_growthOf_25 (by decide) (fun c25 => ?_) (fun c25 => ?_)
    · have h9 : (fun k => decide (ar 11 k = i0) && inSp (ar 12) f t k) i = false := by simp [c25]
      refine v_lconst (v := 0) C dX6_growthOf_61 (by decide) ?_
      refine v_ladd C dX6_growthOf_62 ?_
      refine v_tovl (y := smL (fun k => decide (ar 11 k = i0) && inSp (ar 12) f t k) (ar 13) (i + 1)) (by first | exact (smL_t h9).symm | exact (smL_f h9).symm) ?_
      refine v_lstore C dX6_growthOf_63 (by decide) rfl ?_
      refine v_iincN C dX6_growthOf_65 rfl (by decide) rfl ?_
      refine v_goto (tgt := 6) C dX6_growthOf_68 (by decide) ?_
      exact ih (i + 1) (by omega)
    · refine v_aload_n C dX6_growthOf_28 rfl rfl ?_
      refine vm_get (v := .ref (ad 12)) C hM inX6_growthOf_X6 12 (by decide) kwX6_growthOf_38 rfl rfl dX6_growthOf_29 ?_
      refine v_iload C dX6_growthOf_32 rfl ?_
      refine vm_iald (f := ar 12) C hM 10 rfl (vp_in_nI (by have := hI.sam.2; omega) (by decide)) dX6_growthOf_34 ?_
      rw [nI_clamp (show i < 2 ^ 31 by have := hI.sam.2; omega)]
      refine v_iload_n C dX6_growthOf_35 rfl rfl ?_
      refine v_icmp_lt (tgt := 61) C dX6_growthOf_36 (by decide) (fun c36 => ?_) (fun c36 => ?_)
      · have h9 : (fun k => decide (ar 11 k = i0) && inSp (ar 12) f t k) i = false := by simp [inSp_lt c36]
        refine v_lconst (v := 0) C dX6_growthOf_61 (by decide) ?_
        refine v_ladd C dX6_growthOf_62 ?_
        refine v_tovl (y := smL (fun k => decide (ar 11 k = i0) && inSp (ar 12) f t k) (ar 13) (i + 1)) (by first | exact (smL_t h9).symm | exact (smL_f h9).symm) ?_
        refine v_lstore C dX6_growthOf_63 (by decide) rfl ?_
        refine v_iincN C dX6_growthOf_65 rfl (by decide) rfl ?_
        refine v_goto (tgt := 6) C dX6_growthOf_68 (by decide) ?_
        exact ih (i + 1) (by omega)
      · refine v_aload_n C dX6_growthOf_39 rfl rfl ?_
        refine vm_get (v := .ref (ad 12)) C hM inX6_growthOf_X6 12 (by decide) kwX6_growthOf_38 rfl rfl dX6_growthOf_40 ?_
        refine v_iload C dX6_growthOf_43 rfl ?_
        refine vm_iald (f := ar 12) C hM 10 rfl (vp_in_nI (by have := hI.sam.2; omega) (by decide)) dX6_growthOf_45 ?_
        rw [nI_clamp (show i < 2 ^ 31 by have := hI.sam.2; omega)]
        refine v_iload_n C dX6_growthOf_46 rfl rfl ?_
        refine v_icmp_gt (tgt := 61) C dX6_growthOf_47 (by decide) (fun c47 => ?_) (fun c47 => ?_)
        · have h9 : (fun k => decide (ar 11 k = i0) && inSp (ar 12) f t k) i = false := by simp [inSp_gt c47]
          refine v_lconst (v := 0) C dX6_growthOf_61 (by decide) ?_
          refine v_ladd C dX6_growthOf_62 ?_
          refine v_tovl (y := smL (fun k => decide (ar 11 k = i0) && inSp (ar 12) f t k) (ar 13) (i + 1)) (by first | exact (smL_t h9).symm | exact (smL_f h9).symm) ?_
          refine v_lstore C dX6_growthOf_63 (by decide) rfl ?_
          refine v_iincN C dX6_growthOf_65 rfl (by decide) rfl ?_
          refine v_goto (tgt := 6) C dX6_growthOf_68 (by decide) ?_
          exact ih (i + 1) (by omega)
        · have h9 : (fun k => decide (ar 11 k = i0) && inSp (ar 12) f t k) i = true := by simp [c25, inSp_in c36 c47]
          refine v_aload_n C dX6_growthOf_50 rfl rfl ?_
          refine vm_get (v := .ref (ad 13)) C hM inX6_growthOf_X6 13 (by decide) kwX6_growthOf_41 rfl rfl dX6_growthOf_51 ?_
          refine v_iload C dX6_growthOf_54 rfl ?_
          refine vm_iald (f := ar 13) C hM 11 rfl (vp_in_nI (by have := hI.sam.2; omega) (by decide)) dX6_growthOf_56 ?_
          rw [nI_clamp (show i < 2 ^ 31 by have := hI.sam.2; omega)]
          refine v_i2l C dX6_growthOf_57 rfl ?_
          refine v_goto (tgt := 62) C dX6_growthOf_58 (by decide) ?_
          refine v_ladd C dX6_growthOf_62 ?_
          refine v_tovl (y := smL (fun k => decide (ar 11 k = i0) && inSp (ar 12) f t k) (ar 13) (i + 1)) (by first | exact (smL_t h9).symm | exact (smL_f h9).symm) ?_
          refine v_lstore C dX6_growthOf_63 (by decide) rfl ?_
          refine v_iincN C dX6_growthOf_65 rfl (by decide) rfl ?_
          refine v_at (pc9 := 68) rfl ?_
          refine v_goto (tgt := 6) C dX6_growthOf_68 (by decide) ?_
          exact ih (i + 1) (by omega)
set_option maxHeartbeats 4000000 in
set_option maxRecDepth 100000 in
theorem c_X6_growthOf (l : Launch) (E : gE) (zw : va_W) {ad : Nat → Nat} {g : Nat → Int32} {ar : Nat → Nat → Int32} (hM : mAt zw (mcl E ad g ar)) {tk ns np na : Nat} (hI : MI g ar tk ns np na) (i0 f t : Int32) : CtL l yX6_growthOf wsX6_growthOf ({ frames := 0, cells := 0, slots := 0, locals := 0 }) E [.ref (ad 0), .int i0, .int f, .int t] zw (fun r w1 => zw = w1 ∧ r = smL (fun k => decide (ar 11 k = i0) && inSp (ar 12) f t k) (ar 13) np) 0 0 := by
  refine Ct.of (cc := cX6_growthOf) (nL := 7) (ret := (some .long)) (by decide) rfl (Nat.le_of_ble_eq_true rfl) ?_
  intro p e s m args below meth c C hr hnm
  refine v_eqlv (lv9 := [(0, .ref (ad 0)), (1, .int i0), (2, .int f), (3, .int t)]) rfl ?_
  refine v_lconst (v := 0) C dX6_growthOf_0 (by decide) ?_
  refine v_lstore C dX6_growthOf_1 (by decide) rfl ?_
  refine v_iconst (v := 0) C dX6_growthOf_3 (by decide) ?_
  refine v_tov nI_0.symm ?_
  refine v_istore C dX6_growthOf_4 (by decide) rfl ?_
  refine lp_X6_growthOf C hM hI ?_ np 0 (Nat.zero_add _)
  refine v_lload C dX6_growthOf_71 rfl ?_
  exact v_lret C hr dX6_growthOf_73 (Nat.le_refl _) (Nat.le_refl _) ⟨_, rfl, ⟨rfl, rfl⟩⟩
