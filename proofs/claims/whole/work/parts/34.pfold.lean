/-! ===== what is dropped and folded: the class's rows and the reference's ===== -/
/-- what is folded stays folded; a chief is its own chief -/
def FI (ar : Nat → Nat → Int32) (tk : Nat) : Prop :=
  (∀ t k, t < tk → k < 48 → ar 2 (48 * (t + 1) + k) = nI (k % 8) → ar 2 (48 * t + k) = nI (k % 8)) ∧ (∀ m a, m < 6 → a < 8 → ∃ v, v < 8 ∧ ar 2 (48 * tk + 8 * m + a) = nI v ∧ ar 2 (48 * tk + 8 * m + v) = nI v)
/-- each series has samples, and a place without one has none -/
def MJ (ar : Nat → Nat → Int32) (ns np : Nat) : Prop :=
  (∀ i, i < ns → ∃ q, 1 ≤ q ∧ q ≤ np ∧ ar 5 i = nI q) ∧ (∀ i, ns ≤ i → i < 120 → ar 5 i = 0 ∧ ar 6 i = 0 ∧ ar 9 i = 0)
def GI (g : Nat → Int32) (ar : Nat → Nat → Int32) (tk ns np na : Nat) (dr ch : Nat → Int32) : Prop := MI g ar tk ns np na ∧ MJ ar ns np ∧ CR ar dr ch ∧ FI ar tk
section PF
variable {g : Nat → Int32} {ar : Nat → Nat → Int32} {tk ns np na : Nat} {dr ch : Nat → Int32}
theorem sh_eq (hR : CR ar dr ch) (x : Int32) {tt : Nat} (htt : tt < 200) : ∀ m, m ≤ 6 → shC dr ch x tt m = shI ar x tt m
  | 0, _ => rfl
  | m + 1, hm => by
    have ih := sh_eq hR x htt m (by omega)
    show (if (dr tt >>> (nI m &&& 31)) &&& 1 = 1 then shC dr ch x tt m else shC dr ch x tt m ||| (dgt (ch (6 * tt + m)) (dgt x (nI m)) <<< ((3 * nI m) &&& 31))) = shI ar x tt m ||| ((if ar 1 (6 * tt + m) = 0 then ar 2 (48 * tt + 8 * m + (dgt x (nI m)).toNatClampNeg) else 0) <<< ((3 * nI m) &&& 31))
    obtain ⟨v, v1, v2⟩ := dgt_lt x (nI m)
    by_cases h : (dr tt >>> (nI m &&& 31)) &&& 1 = 1
    · rw [if_pos h, if_neg ((hR.2.1 tt m htt (by omega)).mp h), Int32.zero_shiftLeft, Int32.or_zero, ih]
    · have h0 : ar 1 (6 * tt + m) = 0 := Decidable.of_not_not (fun z => h ((hR.2.1 tt m htt (by omega)).mpr z))
      rw [if_neg h, if_pos h0, ih, v2, nI_clamp (by omega), hR.2.2.2 (6 * tt + m) v (by omega) v1, show 8 * (6 * tt + m) + v = 48 * tt + 8 * m + v by omega]
theorem drp_eq (hI : MI g ar tk ns np na) (hR : CR ar dr ch) {t m : Nat} (ht : t < 200) (hm : m < 6) : b01 ((dr t >>> (nI m &&& 31)) &&& 1 = 1) = ar 1 (6 * t + m) := by
  rcases hI.dr (6 * t + m) (by omega) with h | h
  · rw [h]
    exact b01_f (fun z => (hR.2.1 t m ht hm).mp z h)
  · rw [h]
    exact b01_t ((hR.2.1 t m ht hm).mpr (by rw [h]; decide))
theorem chf_eq (hR : CR ar dr ch) {t m v : Nat} (ht : t < 200) (hm : m < 6) (hv : v < 8) : dgt (ch (6 * t + m)) (nI v) = ar 2 (48 * t + 8 * m + v) := by
  rw [hR.2.2.2 (6 * t + m) v (by omega) hv, show 8 * (6 * t + m) + v = 48 * t + 8 * m + v by omega]
theorem bt_k : ∀ j, j < 64 → btc (nI j) = cnI (fun m => decide ((nI j >>> (nI m &&& 31)) &&& 1 = 1)) 6 := by decide +kernel
theorem cnt_eq (hR : CR ar dr ch) {t : Nat} (ht : t < 200) : btc (dr t) = cnI (fun m => decide (¬ ar 1 (6 * t + m) = 0)) 6 := by
  obtain ⟨j, j1, j2⟩ := hR.1 t ht
  rw [j2, bt_k j j1]
  refine cnI_cong (fun m hm => decide_eq_decide.mpr ?_)
  rw [← j2]
  exact hR.2.1 t m ht hm
theorem fiT_cong {y z : Nat → Int32} : ∀ n a, (∀ t, a ≤ t → t < a + n → (y t = 0 ↔ z t = 0)) → fiT y n a = fiT z n a
  | 0, _, _ => rfl
  | n + 1, a, h => by
    show (if y a = 0 then fiT y n (a + 1) else nI a) = (if z a = 0 then fiT z n (a + 1) else nI a)
    rw [fiT_cong n (a + 1) (fun t h1 h2 => h t (by omega) (by omega))]
    have h0 := h a (Nat.le_refl _) (by omega)
    by_cases q : y a = 0
    · rw [if_pos q, if_pos (h0.mp q)]
    · rw [if_neg q, if_neg (fun e => q (h0.mpr e))]
theorem lkA_iff (pa : Int32) (tt : Nat) : ∀ i, lkA ar pa tt i = 0 ↔ ∀ m, m < i → (pa >>> (nI m &&& 31)) &&& 1 = 1 → ar 1 (6 * tt + m) = 0
  | 0 => ⟨fun _ m h => absurd h (Nat.not_lt_zero m), fun _ => rfl⟩
  | i + 1 => by
    show (if lkA ar pa tt i = 0 then (if (pa >>> (nI i &&& 31)) &&& 1 = 1 then (if ar 1 (6 * tt + i) = 0 then (0 : Int32) else 1) else 0) else 1) = 0 ↔ _
    have ih := lkA_iff pa tt i
    by_cases q : lkA ar pa tt i = 0
    · rw [if_pos q]
      have q2 := ih.mp q
      by_cases b : (pa >>> (nI i &&& 31)) &&& 1 = 1
      · rw [if_pos b]
        by_cases a : ar 1 (6 * tt + i) = 0
        · rw [if_pos a]
          refine ⟨fun _ m h1 h2 => ?_, fun _ => rfl⟩
          rcases Nat.lt_or_ge m i with z | z
          · exact q2 m z h2
          · obtain rfl : m = i := by omega
            exact a
        · rw [if_neg a]
          exact ⟨fun h => absurd h (by decide), fun h => absurd (h i (by omega) b) a⟩
      · rw [if_neg b]
        refine ⟨fun _ m h1 h2 => ?_, fun _ => rfl⟩
        rcases Nat.lt_or_ge m i with z | z
        · exact q2 m z h2
        · obtain rfl : m = i := by omega
          exact absurd h2 b
    · rw [if_neg q]
      exact ⟨fun h => absurd h (by decide), fun h => absurd (ih.mpr (fun m h1 h2 => h m (by omega) h2)) q⟩
theorem and_k : ∀ j, j < 64 → ∀ q, q < 64 → (nI j &&& nI q = 0 ↔ ∀ m, m < 6 → (nI q >>> (nI m &&& 31)) &&& 1 = 1 → ¬ (nI j >>> (nI m &&& 31)) &&& 1 = 1) := by decide +kernel
theorem lak_eq (hI : MI g ar tk ns np na) (hR : CR ar dr ch) {a t : Nat} (ha : a < na) (ht : t < 200) : dr t &&& ar 18 a = 0 ↔ lkA ar (ar 18 a) t 6 = 0 := by
  obtain ⟨j, j1, j2⟩ := hR.1 t ht
  obtain ⟨q, q1, q2⟩ := hI.par a ha
  rw [lkA_iff, j2, q2, and_k j j1 q q1, ← j2]
  constructor
  · intro h m h1 h2
    exact Decidable.of_not_not (fun z => h m h1 h2 ((hR.2.1 t m ht h1).mpr z))
  · intro h m h1 h2 h3
    exact (hR.2.1 t m ht h1).mp h3 (h m h1 h2)
theorem fdA_iff (pa : Int32) (tt : Nat) : ∀ i, fdA ar pa tt i = 0 ↔ ∀ k, k < i → (pa >>> (nI (k / 8) &&& 31)) &&& 1 = 1 → ar 2 (48 * tt + k) = nI (k % 8)
  | 0 => ⟨fun _ m h => absurd h (Nat.not_lt_zero m), fun _ => rfl⟩
  | i + 1 => by
    show (if fdA ar pa tt i = 0 then (if (pa >>> (nI (i / 8) &&& 31)) &&& 1 = 1 then (if ar 2 (48 * tt + i) = nI (i % 8) then (0 : Int32) else 1) else 0) else 1) = 0 ↔ _
    have ih := fdA_iff pa tt i
    by_cases q : fdA ar pa tt i = 0
    · rw [if_pos q]
      have q2 := ih.mp q
      by_cases b : (pa >>> (nI (i / 8) &&& 31)) &&& 1 = 1
      · rw [if_pos b]
        by_cases a : ar 2 (48 * tt + i) = nI (i % 8)
        · rw [if_pos a]
          refine ⟨fun _ m h1 h2 => ?_, fun _ => rfl⟩
          rcases Nat.lt_or_ge m i with z | z
          · exact q2 m z h2
          · obtain rfl : m = i := by omega
            exact a
        · rw [if_neg a]
          exact ⟨fun h => absurd h (by decide), fun h => absurd (h i (by omega) b) a⟩
      · rw [if_neg b]
        refine ⟨fun _ m h1 h2 => ?_, fun _ => rfl⟩
        rcases Nat.lt_or_ge m i with z | z
        · exact q2 m z h2
        · obtain rfl : m = i := by omega
          exact absurd h2 b
    · rw [if_neg q]
      exact ⟨fun h => absurd h (by decide), fun h => absurd (ih.mpr (fun m h1 h2 => h m (by omega) h2)) q⟩
theorem anT_iff (z : Nat → Int32) (a : Nat) : ∀ n, anT z a n = 0 ↔ ∀ k, k < n → z (a + k) = 0
  | 0 => ⟨fun _ m h => absurd h (Nat.not_lt_zero m), fun _ => rfl⟩
  | n + 1 => by
    show (if anT z a n = 0 then (if z (a + n) = 0 then (0 : Int32) else 1) else 1) = 0 ↔ _
    have ih := anT_iff z a n
    by_cases q : anT z a n = 0
    · rw [if_pos q]
      have q2 := ih.mp q
      by_cases b : z (a + n) = 0
      · rw [if_pos b]
        refine ⟨fun _ k h1 => ?_, fun _ => rfl⟩
        rcases Nat.lt_or_ge k n with y | y
        · exact q2 k y
        · obtain rfl : k = n := by omega
          exact b
      · rw [if_neg b]
        exact ⟨fun h => absurd h (by decide), fun h => absurd (h n (by omega)) b⟩
    · rw [if_neg q]
      exact ⟨fun h => absurd h (by decide), fun h => absurd (ih.mpr (fun k h1 => h k (by omega))) q⟩
theorem afC_iff (mk : Int32) (tt : Nat) : ∀ n i, afC ch mk tt n i = 0 ↔ ∀ m, i ≤ m → m < i + n → (mk >>> (nI m &&& 31)) &&& 1 = 1 → ch (6 * tt + m) = 16434824
  | 0, i => ⟨fun _ m h1 h2 => absurd h2 (by omega), fun _ => rfl⟩
  | n + 1, i => by
    show (if (mk >>> (nI i &&& 31)) &&& 1 = 1 ∧ ¬ ch (6 * tt + i) = 16434824 then (1 : Int32) else afC ch mk tt n (i + 1)) = 0 ↔ _
    have ih := afC_iff mk tt n (i + 1)
    by_cases q : (mk >>> (nI i &&& 31)) &&& 1 = 1 ∧ ¬ ch (6 * tt + i) = 16434824
    · rw [if_pos q]
      exact ⟨fun h => absurd h (by decide), fun h => absurd (h i (Nat.le_refl _) (by omega) q.1) q.2⟩
    · rw [if_neg q, ih]
      constructor
      · intro h m h1 h2 h3
        rcases Nat.lt_or_ge i m with z | z
        · exact h m (by omega) (by omega) h3
        · obtain rfl : m = i := by omega
          exact Decidable.of_not_not (fun y => q ⟨h3, y⟩)
      · intro h m h1 h2 h3
        exact h m (by omega) (by omega) h3
theorem own_nat {c : Nat} (hc : c < 2 ^ 24) (h : ∀ v, v < 8 → c / 2 ^ (3 * v) % 8 = v) : c = 16434824 := by
  have h0 := h 0 (by decide)
  have h1 := h 1 (by decide)
  have h2 := h 2 (by decide)
  have h3 := h 3 (by decide)
  have h4 := h 4 (by decide)
  have h5 := h 5 (by decide)
  have h6 := h 6 (by decide)
  have h7 := h 7 (by decide)
  simp only [Nat.reduceMul, Nat.reducePow] at h0 h1 h2 h3 h4 h5 h6 h7 hc
  omega
theorem own_d : ∀ v, v < 8 → dgt 16434824 (nI v) = nI v := by decide +kernel
theorem own_iff (hR : CR ar dr ch) {i : Nat} (hi : i < 1200) : ch i = 16434824 ↔ ∀ v, v < 8 → ar 2 (8 * i + v) = nI v := by
  obtain ⟨c, c1, c2⟩ := hR.2.2.1 i hi
  constructor
  · intro h v hv
    rw [← hR.2.2.2 i v hi hv, h]
    exact own_d v hv
  · intro h
    rw [c2, own_nat c1 (fun v hv => ?_)]
    · rfl
    · have := h v hv
      rw [← hR.2.2.2 i v hi hv, c2, dgt_n (by omega) hv, nI_eq (by omega) (by omega)] at this
      exact this
theorem fold_down (hF : FI ar tk) (k : Nat) (hk : k < 48) : ∀ n t, t + n ≤ tk → ar 2 (48 * (t + n) + k) = nI (k % 8) → ar 2 (48 * t + k) = nI (k % 8)
  | 0, t, _, h => h
  | n + 1, t, hn, h => hF.1 t k (by omega) hk (fold_down hF k hk n (t + 1) (by omega) (by rw [show t + 1 + n = t + (n + 1) by omega]; exact h))
theorem wrk_eq (hR : CR ar dr ch) (hF : FI ar tk) (htk : tk ≤ 199) (pa : Int32) {ff tt : Nat} (hft : ff ≤ tt) (htt : tt ≤ tk) : afC ch pa tt 6 0 = 0 ↔ anT (fun t => fdA ar pa t 48) ff (tt + 1 - ff) = 0 := by
  rw [afC_iff, anT_iff]
  have key : (∀ m, 0 ≤ m → m < 0 + 6 → (pa >>> (nI m &&& 31)) &&& 1 = 1 → ch (6 * tt + m) = 16434824) ↔ ∀ k, k < 48 → (pa >>> (nI (k / 8) &&& 31)) &&& 1 = 1 → ar 2 (48 * tt + k) = nI (k % 8) := by
    constructor
    · intro h k hk hb
      have h1 := (own_iff hR (i := 6 * tt + k / 8) (by omega)).mp (h (k / 8) (Nat.zero_le _) (by omega) hb) (k % 8) (by omega)
      rw [show 8 * (6 * tt + k / 8) + k % 8 = 48 * tt + k by omega] at h1
      exact h1
    · intro h m _ hm hb
      refine (own_iff hR (i := 6 * tt + m) (by omega)).mpr (fun v hv => ?_)
      have h1 := h (8 * m + v) (by omega) (by rw [show (8 * m + v) / 8 = m by omega]; exact hb)
      rw [show (8 * m + v) % 8 = v by omega] at h1
      rw [show 8 * (6 * tt + m) + v = 48 * tt + (8 * m + v) by omega]
      exact h1
  rw [key]
  constructor
  · intro h k hk
    show fdA ar pa (ff + k) 48 = 0
    rw [fdA_iff]
    intro q hq hb
    have h1 := h q hq hb
    refine fold_down hF q hq (tt - (ff + k)) (ff + k) (by omega) ?_
    rw [show ff + k + (tt - (ff + k)) = tt by omega]
    exact h1
  · intro h
    have h1 : fdA ar pa (ff + (tt - ff)) 48 = 0 := h (tt - ff) (by omega)
    rw [show ff + (tt - ff) = tt by omega, fdA_iff] at h1
    exact h1
end PF
