/-! ===== what holds stays: each write of the reference and of the class ===== -/
section PK
variable {g g1 : Nat → Int32} {ar ar1 : Nat → Nat → Int32} {tk ns np na : Nat} {dr ch : Nat → Int32}
theorem MJ.c (h : MJ ar ns np) (h5 : ar1 5 = ar 5) (h6 : ar1 6 = ar 6) (h9 : ar1 9 = ar 9) : MJ ar1 ns np := by
  unfold MJ
  rw [h5, h6, h9]
  exact h
theorem CR.c (h : CR ar dr ch) (h1 : ar1 1 = ar 1) (h2 : ar1 2 = ar 2) : CR ar1 dr ch := by
  unfold CR
  rw [h1, h2]
  exact h
theorem FI.c (h : FI ar tk) (h2 : ar1 2 = ar 2) : FI ar1 tk := by
  unfold FI
  rw [h2]
  exact h
theorem GI.sc (h : GI g ar tk ns np na dr ch) (hs : mSc g ar g1 ar1) : GI g1 ar1 tk ns np na dr ch :=
  ⟨h.1.sc hs, h.2.1.c (hs.2 5 (by decide) (by decide)) (hs.2 6 (by decide) (by decide)) (hs.2 9 (by decide) (by decide)), h.2.2.1.c (hs.2 1 (by decide) (by decide)) (hs.2 2 (by decide) (by decide)), h.2.2.2.c (hs.2 2 (by decide) (by decide))⟩
theorem CF.car {E : gE} {ca : Nat → Nat} {zw : va_W} {t : Int32} {qe : Nat → Nat} {pl : Nat → Nat → Nat} (h : CF E ca zw t ar dr ch ns np na qe pl) (hk : ∀ k, 4 ≤ k → k ≠ 14 → k ≠ 16 → ar1 k = ar k) : CF E ca zw t ar1 dr ch ns np na qe pl := by
  obtain ⟨z0, z4, z5, z6, z7, z1, z2, z3⟩ := h
  refine ⟨z0, z4, z5, z6, by rw [hk 22 (by decide) (by decide) (by decide)]; exact z7, z1.congr (fun i _ => ?_), z2.congr (fun i _ => ?_), z3.congr (fun i _ => ?_)⟩
  · unfold serF
    rw [hk 4 (by decide) (by decide) (by decide), hk 5 (by decide) (by decide) (by decide), hk 6 (by decide) (by decide) (by decide), hk 7 (by decide) (by decide) (by decide), hk 8 (by decide) (by decide) (by decide), hk 9 (by decide) (by decide) (by decide)]
  · unfold samF
    rw [hk 4 (by decide) (by decide) (by decide), hk 11 (by decide) (by decide) (by decide), hk 12 (by decide) (by decide) (by decide), hk 13 (by decide) (by decide) (by decide)]
  · unfold askF
    rw [hk 18 (by decide) (by decide) (by decide), hk 19 (by decide) (by decide) (by decide), hk 20 (by decide) (by decide) (by decide), hk 21 (by decide) (by decide) (by decide)]
theorem CF.sc {E : gE} {ca : Nat → Nat} {zw : va_W} {t : Int32} {qe : Nat → Nat} {pl : Nat → Nat → Nat} (h : CF E ca zw t ar dr ch ns np na qe pl) (hs : mSc g ar g1 ar1) : CF E ca zw t ar1 dr ch ns np na qe pl := h.car (fun k _ h1 h2 => hs.2 k h1 h2)
theorem cpR_in {b : Nat} {f : Nat → Int32} {tk kk j : Nat} (h1 : b * (tk + 1) ≤ j) (h2 : j < b * (tk + kk + 1)) : cpR b f tk kk j = f (b * tk + j % b) := if_pos ⟨h1, h2⟩
theorem cpR_out {b : Nat} {f : Nat → Int32} {tk kk j : Nat} (h : j < b * (tk + 1) ∨ b * (tk + kk + 1) ≤ j) : cpR b f tk kk j = f j := if_neg (fun q => by omega)
theorem GI.pass (h : GI g ar tk ns np na dr ch) {n : Nat} (hn : tk + n ≤ 199) : GI (upd g 0 (nI (tk + n))) (va_up (va_up ar 1 (cpR 6 (ar 1) tk n)) 2 (cpR 48 (ar 2) tk n)) (tk + n) ns np na (cpR 1 dr tk n) (cpR 6 ch tk n) := by
  obtain ⟨⟨⟨a1, a2⟩, a3, a4, a5, a6, a7, a8, a9, a10, a11, a12, a13, a14⟩, hJ, hR, hF⟩ := h
  refine ⟨⟨⟨pk_us, hn⟩, a3, a4, a5, a6, fun k hk => ?_, a8, a9, fun i hi => ?_, fun i hi => ?_, a12, a13, a14⟩, hJ, ⟨fun t ht => ?_, fun t m ht hm => ?_, fun i hi => ?_, fun i v hi hv => ?_⟩, fun t k ht hk => ?_, fun m a hm ha => ?_⟩
  · obtain ⟨t, t1, t2⟩ := a7 k hk
    exact ⟨t, by omega, t2⟩
  · show cpR 6 (ar 1) tk n i = 0 ∨ cpR 6 (ar 1) tk n i = 1
    by_cases z : 6 * (tk + 1) ≤ i ∧ i < 6 * (tk + n + 1)
    · rw [cpR_in z.1 z.2]
      exact a10 _ (by omega)
    · rw [cpR_out (by omega)]
      exact a10 i hi
  · show ∃ v, v < 8 ∧ cpR 48 (ar 2) tk n i = nI v
    by_cases z : 48 * (tk + 1) ≤ i ∧ i < 48 * (tk + n + 1)
    · rw [cpR_in z.1 z.2]
      exact a11 _ (by omega)
    · rw [cpR_out (by omega)]
      exact a11 i hi
  · by_cases z : 1 * (tk + 1) ≤ t ∧ t < 1 * (tk + n + 1)
    · rw [cpR_in z.1 z.2]
      exact hR.1 _ (by omega)
    · rw [cpR_out (by omega)]
      exact hR.1 t ht
  · show (cpR 1 dr tk n t >>> (nI m &&& 31)) &&& 1 = 1 ↔ ¬ cpR 6 (ar 1) tk n (6 * t + m) = 0
    by_cases z : 1 * (tk + 1) ≤ t ∧ t < 1 * (tk + n + 1)
    · rw [cpR_in z.1 z.2, cpR_in (by omega) (by omega), show 1 * tk + t % 1 = tk by omega, show 6 * tk + (6 * t + m) % 6 = 6 * tk + m by omega]
      exact hR.2.1 tk m (by omega) hm
    · rw [cpR_out (by omega), cpR_out (by omega)]
      exact hR.2.1 t m ht hm
  · by_cases z : 6 * (tk + 1) ≤ i ∧ i < 6 * (tk + n + 1)
    · rw [cpR_in z.1 z.2]
      exact hR.2.2.1 _ (by omega)
    · rw [cpR_out (by omega)]
      exact hR.2.2.1 i hi
  · show dgt (cpR 6 ch tk n i) (nI v) = cpR 48 (ar 2) tk n (8 * i + v)
    by_cases z : 6 * (tk + 1) ≤ i ∧ i < 6 * (tk + n + 1)
    · rw [cpR_in z.1 z.2, cpR_in (by omega) (by omega), hR.2.2.2 _ v (by omega) hv, show 8 * (6 * tk + i % 6) + v = 48 * tk + (8 * i + v) % 48 by omega]
    · rw [cpR_out (by omega), cpR_out (by omega)]
      exact hR.2.2.2 i v hi hv
  · show cpR 48 (ar 2) tk n (48 * (t + 1) + k) = nI (k % 8) → cpR 48 (ar 2) tk n (48 * t + k) = nI (k % 8)
    rcases Nat.lt_or_ge t tk with z | z
    · rw [cpR_out (by omega), cpR_out (by omega)]
      exact hF.1 t k z hk
    · rw [cpR_in (by omega) (by omega), show 48 * tk + (48 * (t + 1) + k) % 48 = 48 * tk + k by omega]
      rcases Nat.lt_or_ge tk t with y | y
      · rw [cpR_in (by omega) (by omega), show 48 * tk + (48 * t + k) % 48 = 48 * tk + k by omega]
        exact id
      · obtain rfl : t = tk := by omega
        rw [cpR_out (by omega)]
        exact id
  · show ∃ v, v < 8 ∧ cpR 48 (ar 2) tk n (48 * (tk + n) + 8 * m + a) = nI v ∧ cpR 48 (ar 2) tk n (48 * (tk + n) + 8 * m + v) = nI v
    obtain ⟨v, v1, v2, v3⟩ := hF.2 m a hm ha
    refine ⟨v, v1, ?_⟩
    rcases Nat.eq_zero_or_pos n with z | z
    · subst z
      rw [cpR_out (by omega), cpR_out (by omega)]
      exact ⟨v2, v3⟩
    · rw [cpR_in (by omega) (by omega), cpR_in (by omega) (by omega), show 48 * tk + (48 * (tk + n) + 8 * m + a) % 48 = 48 * tk + 8 * m + a by omega, show 48 * tk + (48 * (tk + n) + 8 * m + v) % 48 = 48 * tk + 8 * m + v by omega]
      exact ⟨v2, v3⟩
theorem dr_or : ∀ j, j < 64 → ∀ m, m < 6 → (nI j ||| ((1 : Int32) <<< (nI m &&& 31)) = nI (j ||| 2 ^ m) ∧ (j ||| 2 ^ m) < 64 ∧ ∀ q, q < 6 → (((nI j ||| ((1 : Int32) <<< (nI m &&& 31))) >>> (nI q &&& 31)) &&& 1 = 1 ↔ q = m ∨ (nI j >>> (nI q &&& 31)) &&& 1 = 1)) := by decide +kernel
theorem dr_an : ∀ j, j < 64 → ∀ m, m < 6 → (nI j &&& (((1 : Int32) <<< (nI m &&& 31)) ^^^ (-1)) = nI (j &&& (63 - 2 ^ m)) ∧ (j &&& (63 - 2 ^ m)) < 64 ∧ ∀ q, q < 6 → (((nI j &&& (((1 : Int32) <<< (nI m &&& 31)) ^^^ (-1))) >>> (nI q &&& 31)) &&& 1 = 1 ↔ ¬ q = m ∧ (nI j >>> (nI q &&& 31)) &&& 1 = 1)) := by decide +kernel
theorem GI.drop (h : GI g ar tk ns np na dr ch) {m : Nat} (hm : m < 6) {is : Int32} (his : is = 0 ∨ is = 1) : GI g (va_up ar 1 (upd (ar 1) (6 * tk + m) is)) tk ns np na (upd dr tk (if is = 0 then dr tk &&& (((1 : Int32) <<< (nI m &&& 31)) ^^^ (-1)) else dr tk ||| ((1 : Int32) <<< (nI m &&& 31)))) ch := by
  obtain ⟨⟨⟨a1, a2⟩, a3, a4, a5, a6, a7, a8, a9, a10, a11, a12, a13, a14⟩, hJ, hR, hF⟩ := h
  obtain ⟨j, j1, j2⟩ := hR.1 tk (by omega)
  have key : ∃ i, i < 64 ∧ (if is = 0 then dr tk &&& (((1 : Int32) <<< (nI m &&& 31)) ^^^ (-1)) else dr tk ||| ((1 : Int32) <<< (nI m &&& 31))) = nI i ∧ ∀ q, q < 6 → (((if is = 0 then dr tk &&& (((1 : Int32) <<< (nI m &&& 31)) ^^^ (-1)) else dr tk ||| ((1 : Int32) <<< (nI m &&& 31))) >>> (nI q &&& 31)) &&& 1 = 1 ↔ ¬ upd (ar 1) (6 * tk + m) is (6 * tk + q) = 0) := by
    rcases his with e | e
    · rw [if_pos e, j2]
      obtain ⟨k1, k2, k3⟩ := dr_an j j1 m hm
      refine ⟨_, k2, k1, fun q hq => ?_⟩
      rw [k3 q hq, ← j2, hR.2.1 tk q (by omega) hq]
      rcases Nat.decEq q m with z | z
      · rw [pk_un (by omega)]
        exact ⟨fun y => y.2, fun y => ⟨z, y⟩⟩
      · subst z
        rw [pk_us, e]
        exact ⟨fun y => absurd rfl y.1, fun y => absurd rfl y⟩
    · have e0 : ¬ is = 0 := by rw [e]; decide
      rw [if_neg e0, j2]
      obtain ⟨k1, k2, k3⟩ := dr_or j j1 m hm
      refine ⟨_, k2, k1, fun q hq => ?_⟩
      rw [k3 q hq, ← j2, hR.2.1 tk q (by omega) hq]
      rcases Nat.decEq q m with z | z
      · rw [pk_un (by omega)]
        exact ⟨fun y => y.elim (fun y => absurd y z) id, fun y => Or.inr y⟩
      · subst z
        rw [pk_us]
        exact ⟨fun _ => e0, fun _ => Or.inl rfl⟩
  obtain ⟨i, i1, i2, i3⟩ := key
  generalize (if is = 0 then dr tk &&& (((1 : Int32) <<< (nI m &&& 31)) ^^^ (-1)) else dr tk ||| ((1 : Int32) <<< (nI m &&& 31))) = nd at i2 i3 ⊢
  refine ⟨⟨⟨a1, a2⟩, a3, a4, a5, a6, a7, a8, a9, fun i hi => ?_, a11, a12, a13, a14⟩, hJ, ⟨fun t ht => ?_, fun t q ht hq => ?_, hR.2.2.1, hR.2.2.2⟩, hF⟩
  · show upd (ar 1) (6 * tk + m) is i = 0 ∨ upd (ar 1) (6 * tk + m) is i = 1
    rcases Nat.decEq i (6 * tk + m) with z | z
    · rw [pk_un z]
      exact a10 i hi
    · rw [z, pk_us]
      exact his
  · rcases Nat.decEq t tk with z | z
    · rw [pk_un z]
      exact hR.1 t ht
    · rw [z, pk_us]
      exact ⟨i, i1, i2⟩
  · show (upd dr tk nd t >>> (nI q &&& 31)) &&& 1 = 1 ↔ ¬ upd (ar 1) (6 * tk + m) is (6 * t + q) = 0
    rcases Nat.decEq t tk with z | z
    · rw [pk_un z, pk_un (by omega)]
      exact hR.2.1 t q ht hq
    · rw [z, pk_us]
      exact i3 q hq
/-- a number out of its octal digits -/
def ptS (e : Nat → Nat) : Nat → Nat
  | 0 => 0
  | n + 1 => 2 ^ (3 * n) * e n + ptS e n
theorem ptS_lt {e : Nat → Nat} (he : ∀ v, e v < 8) : ∀ n, ptS e n < 2 ^ (3 * n)
  | 0 => show 0 < 1 by decide
  | n + 1 => by
    have ih := ptS_lt he n
    have h1 : 2 ^ (3 * n) * e n ≤ 2 ^ (3 * n) * 7 := Nat.mul_le_mul_left _ (by have := he n; omega)
    show 2 ^ (3 * n) * e n + ptS e n < 2 ^ (3 * (n + 1))
    rw [show 3 * (n + 1) = 3 * n + 3 by omega, Nat.pow_add]
    omega
theorem ptS_dig {e : Nat → Nat} (he : ∀ v, e v < 8) {v : Nat} (hv : v < 8) : ptS e 8 / 2 ^ (3 * v) % 8 = e v := by
  have h0 := he 0
  have h1 := he 1
  have h2 := he 2
  have h3 := he 3
  have h4 := he 4
  have h5 := he 5
  have h6 := he 6
  have h7 := he 7
  have hs : ptS e 8 = 2097152 * e 7 + (262144 * e 6 + (32768 * e 5 + (4096 * e 4 + (512 * e 3 + (64 * e 2 + (8 * e 1 + (1 * e 0 + 0))))))) := rfl
  rw [hs]
  rcases (show v = 0 ∨ v = 1 ∨ v = 2 ∨ v = 3 ∨ v = 4 ∨ v = 5 ∨ v = 6 ∨ v = 7 by omega) with z | z | z | z | z | z | z | z <;> subst z <;> simp only [Nat.reduceMul, Nat.reducePow] <;> omega
theorem ptC_d (c0 x y : Int32) {z : Nat} (hz : z < 8) : ∃ S, S < 2 ^ 24 ∧ ptC c0 x y (nI z) 8 = nI S ∧ ∀ v, v < 8 → dgt (nI S) (nI v) = if dgt c0 (nI v) = x ∨ dgt c0 (nI v) = y then nI z else dgt c0 (nI v) := by
  have hd : ∀ v, (if dgt c0 (nI v) = x ∨ dgt c0 (nI v) = y then nI z else dgt c0 (nI v)).toNatClampNeg < 8 ∧ nI (if dgt c0 (nI v) = x ∨ dgt c0 (nI v) = y then nI z else dgt c0 (nI v)).toNatClampNeg = (if dgt c0 (nI v) = x ∨ dgt c0 (nI v) = y then nI z else dgt c0 (nI v)) := fun v => by
    by_cases q : dgt c0 (nI v) = x ∨ dgt c0 (nI v) = y
    · rw [if_pos q, nI_clamp (by omega)]
      exact ⟨hz, rfl⟩
    · rw [if_neg q]
      obtain ⟨u, u1, u2⟩ := dgt_lt c0 (nI v)
      rw [u2, nI_clamp (by omega)]
      exact ⟨u1, rfl⟩
  obtain ⟨e, he⟩ : ∃ e : Nat → Nat, ∀ v, e v = (if dgt c0 (nI v) = x ∨ dgt c0 (nI v) = y then nI z else dgt c0 (nI v)).toNatClampNeg := ⟨_, fun _ => rfl⟩
  have he8 : ∀ v, e v < 8 := fun v => by rw [he v]; exact (hd v).1
  have heq : ∀ v, (if dgt c0 (nI v) = x ∨ dgt c0 (nI v) = y then nI z else dgt c0 (nI v)) = nI (e v) := fun v => by rw [he v]; exact (hd v).2.symm
  have hp : ∀ n, n ≤ 8 → ptC c0 x y (nI z) n = nI (ptS e n) := by
    intro n
    induction n with
    | zero => intro _; exact nI_0.symm
    | succ n ih =>
      intro hn
      show ptC c0 x y (nI z) n ||| ((if dgt c0 (nI n) = x ∨ dgt c0 (nI n) = y then nI z else dgt c0 (nI n)) <<< ((3 * nI n) &&& 31)) = nI (2 ^ (3 * n) * e n + ptS e n)
      have hpow : 2 ^ (3 * n) ≤ 2 ^ 21 := Nat.pow_le_pow_right (by decide) (by omega)
      have hmul : e n * 2 ^ (3 * n) ≤ 7 * 2 ^ 21 := Nat.mul_le_mul (by have := he8 n; omega) hpow
      rw [ih (by omega), heq n, pk_shlN _ (3 * n) (sh3 n (by omega)) (by omega), Int32.or_comm, Nat.mul_comm (e n), fa_or_sum _ (ptS_lt he8 n)]
  refine ⟨ptS e 8, ptS_lt he8 8, hp 8 (Nat.le_refl _), fun v hv => ?_⟩
  have hlt : ptS e 8 < 2 ^ (3 * 8) := ptS_lt he8 8
  rw [dgt_n (by omega) hv, ptS_dig he8 hv, heq v]
theorem min_eq (x y : Int32) : (if y < x then y else x) = (if x < y then x else y) := by
  by_cases a : y < x
  · rw [if_pos a, if_neg (fun b => lt_ir x (lt_tr b a))]
  · rw [if_neg a]
    by_cases b : x < y
    · rw [if_pos b]
    · rw [if_neg b]
      rcases fa_three x y with q | q | q
      · exact absurd q b
      · exact q
      · exact absurd q a
theorem GI.fold (h : GI g ar tk ns np na dr ch) {m a b : Nat} (hm : m < 6) (ha : a < 8) (hb : b < 8) {G : Nat → Int32} (hG : ∀ j, G j = if ((48 * tk + 8 * m) ≤ j ∧ j < (48 * tk + 8 * m) + 8) ∧ (ar 2 j = (ar 2 ((48 * tk + 8 * m) + a)) ∨ ar 2 j = (ar 2 ((48 * tk + 8 * m) + b))) then (if (ar 2 ((48 * tk + 8 * m) + a)) < (ar 2 ((48 * tk + 8 * m) + b)) then (ar 2 ((48 * tk + 8 * m) + a)) else (ar 2 ((48 * tk + 8 * m) + b))) else ar 2 j) : GI g (va_up ar 2 G) tk ns np na dr (upd ch (6 * tk + m) (ptC (ch (6 * tk + m)) (dgt (ch (6 * tk + m)) (nI a)) (dgt (ch (6 * tk + m)) (nI b)) (if (dgt (ch (6 * tk + m)) (nI b)) < (dgt (ch (6 * tk + m)) (nI a)) then (dgt (ch (6 * tk + m)) (nI b)) else (dgt (ch (6 * tk + m)) (nI a))) 8)) := by
  obtain ⟨⟨⟨a1, a2⟩, a3, a4, a5, a6, a7, a8, a9, a10, a11, a12, a13, a14⟩, hJ, hR, hF⟩ := h
  rw [chf_eq hR (t := tk) (by omega) hm ha, chf_eq hR (t := tk) (by omega) hm hb, min_eq]
  obtain ⟨xa, xa1, xa2, xa3⟩ := hF.2 m a hm ha
  obtain ⟨yb, yb1, yb2, yb3⟩ := hF.2 m b hm hb
  rw [xa2, yb2] at hG ⊢
  obtain ⟨z, z1, z2, z3⟩ : ∃ z, z < 8 ∧ (if nI xa < nI yb then nI xa else nI yb) = nI z ∧ (z = xa ∨ z = yb) := by
    by_cases q : nI xa < nI yb
    · exact ⟨xa, xa1, if_pos q, Or.inl rfl⟩
    · exact ⟨yb, yb1, if_neg q, Or.inr rfl⟩
  rw [z2] at hG ⊢
  have hz : ar 2 (48 * tk + 8 * m + z) = nI z := by
    rcases z3 with e | e <;> subst e
    · exact xa3
    · exact yb3
  obtain ⟨S, S1, S2, S3⟩ := ptC_d (ch (6 * tk + m)) (nI xa) (nI yb) z1
  rw [S2]
  refine ⟨⟨⟨a1, a2⟩, a3, a4, a5, a6, a7, a8, a9, a10, fun i hi => ?_, a12, a13, a14⟩, hJ, ⟨hR.1, hR.2.1, fun i hi => ?_, fun i v hi hv => ?_⟩, fun t k ht hk => ?_, fun m2 a2 hm2 ha2 => ?_⟩
  · show ∃ v, v < 8 ∧ G i = nI v
    rw [hG i]
    by_cases q : ((48 * tk + 8 * m) ≤ i ∧ i < (48 * tk + 8 * m) + 8) ∧ (ar 2 i = nI xa ∨ ar 2 i = nI yb)
    · rw [if_pos q]
      exact ⟨z, z1, rfl⟩
    · rw [if_neg q]
      exact a11 i hi
  · rcases Nat.decEq i (6 * tk + m) with q | q
    · rw [pk_un q]
      exact hR.2.2.1 i hi
    · rw [q, pk_us]
      exact ⟨S, S1, rfl⟩
  · show dgt (upd ch (6 * tk + m) (nI S) i) (nI v) = G (8 * i + v)
    rw [hG]
    rcases Nat.decEq i (6 * tk + m) with q | q
    · rw [pk_un q, if_neg (fun y => by omega)]
      exact hR.2.2.2 i v hi hv
    · subst q
      rw [pk_us, S3 v hv, hR.2.2.2 (6 * tk + m) v hi hv]
      by_cases y : ar 2 (8 * (6 * tk + m) + v) = nI xa ∨ ar 2 (8 * (6 * tk + m) + v) = nI yb
      · rw [if_pos y, if_pos ⟨by omega, y⟩]
      · rw [if_neg y, if_neg (fun u => y u.2)]
  · show G (48 * (t + 1) + k) = nI (k % 8) → G (48 * t + k) = nI (k % 8)
    intro h1
    rw [hG, if_neg (fun y => by omega)]
    refine hF.1 t k ht hk ?_
    rw [hG] at h1
    by_cases q : ((48 * tk + 8 * m) ≤ 48 * (t + 1) + k ∧ 48 * (t + 1) + k < (48 * tk + 8 * m) + 8) ∧ (ar 2 (48 * (t + 1) + k) = nI xa ∨ ar 2 (48 * (t + 1) + k) = nI yb)
    · rw [if_pos q] at h1
      have h2 := (nI_eq (by omega) (by omega)).mp h1
      rw [show 48 * (t + 1) + k = 48 * tk + 8 * m + z by omega, hz, h1]
    · rw [if_neg q] at h1
      exact h1
  · show ∃ v, v < 8 ∧ G (48 * tk + 8 * m2 + a2) = nI v ∧ G (48 * tk + 8 * m2 + v) = nI v
    obtain ⟨v, v1, v2, v3⟩ := hF.2 m2 a2 hm2 ha2
    by_cases q : ((48 * tk + 8 * m) ≤ 48 * tk + 8 * m2 + a2 ∧ 48 * tk + 8 * m2 + a2 < (48 * tk + 8 * m) + 8) ∧ (ar 2 (48 * tk + 8 * m2 + a2) = nI xa ∨ ar 2 (48 * tk + 8 * m2 + a2) = nI yb)
    · refine ⟨z, z1, ?_, ?_⟩
      · rw [hG, if_pos q]
      · obtain rfl : m2 = m := by omega
        rw [hG, hz]
        by_cases y : ((48 * tk + 8 * m2) ≤ 48 * tk + 8 * m2 + z ∧ 48 * tk + 8 * m2 + z < (48 * tk + 8 * m2) + 8) ∧ (nI z = nI xa ∨ nI z = nI yb)
        · rw [if_pos y]
        · rw [if_neg y]
    · refine ⟨v, v1, ?_, ?_⟩
      · rw [hG, if_neg q, v2]
      · rw [hG, v3]
        by_cases y : ((48 * tk + 8 * m) ≤ 48 * tk + 8 * m2 + v ∧ 48 * tk + 8 * m2 + v < (48 * tk + 8 * m) + 8) ∧ (nI v = nI xa ∨ nI v = nI yb)
        · exact absurd ⟨by omega, by rw [v2]; exact y.2⟩ q
        · rw [if_neg y]
theorem GI.told (h : GI g ar tk ns np na dr ch) {j : Nat} (hj : j < ns) (hnp : np < 2000) (y : Int32) : GI (upd g 10 (nI (np + 1))) (tlA (g 0) ar j np y) tk ns (np + 1) na dr ch := by
  obtain ⟨⟨⟨a1, a2⟩, a3, ⟨a4, a4b⟩, a5, a6, a7, a8, a9, a10, a11, a12, a13, a14⟩, hJ, hR, hF⟩ := h
  refine ⟨⟨⟨a1, a2⟩, a3, ⟨pk_us, by omega⟩, a5, fun k hk => ?_, fun k hk => ?_, a8, a9, a10, a11, fun i h1 h2 => ?_, a13, a14⟩, ⟨fun i hi => ?_, fun i h1 h2 => ?_⟩, hR, hF⟩
  · show ∃ q, q < ns ∧ upd (ar 11) np (nI j) k = nI q
    rcases Nat.lt_or_ge k np with z | z
    · rw [pk_un (Nat.ne_of_lt z)]
      exact a6 k z
    · obtain rfl : k = np := by omega
      exact ⟨j, hj, pk_us⟩
  · show ∃ t, t ≤ tk ∧ upd (ar 12) np (g 0) k = nI t
    rcases Nat.lt_or_ge k np with z | z
    · rw [pk_un (Nat.ne_of_lt z)]
      exact a7 k z
    · obtain rfl : k = np := by omega
      exact ⟨tk, Nat.le_refl _, by rw [pk_us, a1]⟩
  · show upd (ar 5) j (ar 5 j + 1) i = 0
    rw [pk_un (by omega)]
    exact a12 i h1 h2
  · show ∃ q, 1 ≤ q ∧ q ≤ np + 1 ∧ upd (ar 5) j (ar 5 j + 1) i = nI q
    obtain ⟨q, q1, q2, q3⟩ := hJ.1 i hi
    rcases Nat.decEq i j with z | z
    · rw [pk_un z]
      exact ⟨q, q1, by omega, q3⟩
    · subst z
      rw [pk_us, q3, nI_1]
      exact ⟨q + 1, by omega, by omega, rfl⟩
  · show upd (ar 5) j (ar 5 j + 1) i = 0 ∧ upd (ar 6) j y i = 0 ∧ upd (ar 9) j _ i = 0
    rw [pk_un (by omega), pk_un (by omega), pk_un (by omega)]
    exact hJ.2 i h1 h2
theorem GI.tnew (h : GI g ar tk ns np na dr ch) (hns : ns < 120) (hnp : np < 2000) {n : Nat} (hx : n < 262144) (hnew : ∀ q, q < ns → ¬ ar 4 q = nI n) (y : Int32) : GI (upd (upd g 3 (nI (ns + 1))) 10 (nI (np + 1))) (tlA (g 0) (nwA (g 0) ar ns (nI n)) ns np y) tk (ns + 1) (np + 1) na dr ch := by
  obtain ⟨⟨⟨a1, a2⟩, ⟨a3, a3b⟩, ⟨a4, a4b⟩, a5, a6, a7, a8, a9, a10, a11, a12, a13, a14⟩, hJ, hR, hF⟩ := h
  refine ⟨⟨⟨a1, a2⟩, ⟨?_, by omega⟩, ⟨pk_us, by omega⟩, a5, fun k hk => ?_, fun k hk => ?_, fun i hi => ?_, fun i j hi hj he => ?_, a10, a11, fun i h1 h2 => ?_, a13, a14⟩, ⟨fun i hi => ?_, fun i h1 h2 => ?_⟩, hR, hF⟩
  · show upd (upd g 3 (nI (ns + 1))) 10 (nI (np + 1)) 3 = nI (ns + 1)
    rw [pk_un (by decide), pk_us]
  · show ∃ q, q < ns + 1 ∧ upd (ar 11) np (nI ns) k = nI q
    rcases Nat.lt_or_ge k np with z | z
    · rw [pk_un (Nat.ne_of_lt z)]
      obtain ⟨q, q1, q2⟩ := a6 k z
      exact ⟨q, by omega, q2⟩
    · obtain rfl : k = np := by omega
      exact ⟨ns, by omega, pk_us⟩
  · show ∃ t, t ≤ tk ∧ upd (ar 12) np (g 0) k = nI t
    rcases Nat.lt_or_ge k np with z | z
    · rw [pk_un (Nat.ne_of_lt z)]
      exact a7 k z
    · obtain rfl : k = np := by omega
      exact ⟨tk, Nat.le_refl _, by rw [pk_us, a1]⟩
  · show ∃ q, q < 262144 ∧ upd (ar 4) ns (nI n) i = nI q
    rcases Nat.lt_or_ge i ns with z | z
    · rw [pk_un (Nat.ne_of_lt z)]
      exact a8 i z
    · obtain rfl : i = ns := by omega
      exact ⟨n, hx, pk_us⟩
  · have he : upd (ar 4) ns (nI n) i = upd (ar 4) ns (nI n) j := he
    rcases Nat.lt_or_ge i ns with z | z
    · rw [pk_un (Nat.ne_of_lt z)] at he
      rcases Nat.lt_or_ge j ns with q | q
      · rw [pk_un (Nat.ne_of_lt q)] at he
        exact a9 i j z q he
      · obtain rfl : j = ns := by omega
        rw [pk_us] at he
        exact absurd he (hnew i z)
    · obtain rfl : i = ns := by omega
      rw [pk_us] at he
      rcases Nat.lt_or_ge j i with q | q
      · rw [pk_un (Nat.ne_of_lt q)] at he
        exact absurd he.symm (hnew j q)
      · omega
  · show upd (ar 5) ns (ar 5 ns + 1) i = 0
    rw [pk_un (by omega)]
    exact a12 i (by omega) h2
  · show ∃ q, 1 ≤ q ∧ q ≤ np + 1 ∧ upd (ar 5) ns (ar 5 ns + 1) i = nI q
    rcases Nat.lt_or_ge i ns with z | z
    · obtain ⟨q, q1, q2, q3⟩ := hJ.1 i z
      rw [pk_un (Nat.ne_of_lt z)]
      exact ⟨q, q1, by omega, q3⟩
    · obtain rfl : i = ns := by omega
      rw [pk_us, (hJ.2 i (Nat.le_refl _) hns).1]
      exact ⟨1, Nat.le_refl _, by omega, rfl⟩
  · show upd (ar 5) ns (ar 5 ns + 1) i = 0 ∧ upd (ar 6) ns y i = 0 ∧ upd (ar 9) ns _ i = 0
    rw [pk_un (by omega), pk_un (by omega), pk_un (by omega)]
    exact hJ.2 i (by omega) h2
theorem GI.ask (h : GI g ar tk ns np na dr ch) (hna : na < 10) {q : Nat} (hq : q < 64) {mk : Int32} (hmk : mk = (-9) ∨ ∃ m, m < 6 ∧ mk = nI m) (z : Int32) : GI (upd g 17 (nI (na + 1))) (va_up (va_up (va_up (va_up ar 18 (upd (ar 18) na (nI q))) 19 (upd (ar 19) na mk)) 20 (upd (ar 20) na z)) 21 (upd (ar 21) na 0)) tk ns np (na + 1) dr ch := by
  obtain ⟨⟨⟨a1, a2⟩, a3, a4, a5, a6, a7, a8, a9, a10, a11, a12, a13, a14⟩, hJ, hR, hF⟩ := h
  refine ⟨⟨⟨a1, a2⟩, a3, a4, ⟨pk_us, by omega⟩, a6, a7, a8, a9, a10, a11, a12, fun a ha => ?_, fun a ha => ?_⟩, hJ, hR, hF⟩
  · show ∃ p, p < 64 ∧ upd (ar 18) na (nI q) a = nI p
    rcases Nat.lt_or_ge a na with y | y
    · rw [pk_un (Nat.ne_of_lt y)]
      exact a13 a y
    · obtain rfl : a = na := by omega
      exact ⟨q, hq, pk_us⟩
  · show upd (ar 19) na mk a = (-9) ∨ ∃ p, p < 6 ∧ upd (ar 19) na mk a = nI p
    rcases Nat.lt_or_ge a na with y | y
    · rw [pk_un (Nat.ne_of_lt y)]
      exact a14 a y
    · obtain rfl : a = na := by omega
      rw [pk_us]
      exact hmk
theorem GI.wgh (h : GI g ar tk ns np na dr ch) (G : Nat → Int32) : GI g (va_up ar 22 G) tk ns np na dr ch ∧ GI g (va_up ar 21 G) tk ns np na dr ch := ⟨h, h⟩
theorem GI.ti (h : GI g ar tk ns np na dr ch) : TI ar ns np := by
  refine ⟨fun i hi => ?_, fun hn => h.2.1.2 ns (Nat.le_refl _) hn, h.1.of⟩
  obtain ⟨q, q1, q2, q3⟩ := h.2.1.1 i hi
  have := h.1.sam.2
  rw [q3, nI_toInt (by omega)]
  omega
end PK
