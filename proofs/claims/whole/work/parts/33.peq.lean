/-! ===== the class's answers and the reference's: masks, sets, sums ===== -/
theorem and_m1 (x : Int32) : x &&& (-1) = x := Int32.toBitVec_inj.mp (by
  show x.toBitVec &&& BitVec.allOnes 32 = x.toBitVec
  exact BitVec.and_allOnes)
def woM (mk : Int32) : Nat → Int32
  | 0 => -1
  | i + 1 => if (mk >>> (nI i &&& 31)) &&& 1 = 1 then woM mk i &&& ((7 <<< ((3 * nI i) &&& 31)) ^^^ (-1)) else woM mk i
theorem woI_M (x mk : Int32) : ∀ i, woI x mk i = x &&& woM mk i
  | 0 => (and_m1 x).symm
  | i + 1 => by
    show (if (mk >>> (nI i &&& 31)) &&& 1 = 1 then woI x mk i &&& ((7 <<< ((3 * nI i) &&& 31)) ^^^ (-1)) else woI x mk i) = x &&& (if (mk >>> (nI i &&& 31)) &&& 1 = 1 then woM mk i &&& ((7 <<< ((3 * nI i) &&& 31)) ^^^ (-1)) else woM mk i)
    by_cases h : (mk >>> (nI i &&& 31)) &&& 1 = 1
    · rw [if_pos h, if_pos h, woI_M x mk i, Int32.and_assoc]
    · rw [if_neg h, if_neg h, woI_M x mk i]
theorem mask_k : ∀ p, p < 64 → woM (63 &&& (nI p ^^^ (-1))) 6 &&& 262143 = dgs (nI p) 6 := by decide +kernel
theorem mask_w : ∀ p, p < 64 → woM (nI p) 6 &&& 262143 = dgs (63 ^^^ nI p) 6 := by decide +kernel
theorem and18 {n : Nat} (h : n < 262144) : nI n &&& 262143 = nI n := by
  rw [show (262143 : Int32) = nI (2 ^ 18 - 1) from rfl, fa_mask, Nat.mod_eq_of_lt h]
theorem key_eq {n p : Nat} (hn : n < 262144) (hp : p < 64) : woI (nI n) (63 &&& (nI p ^^^ (-1))) 6 = nI n &&& dgs (nI p) 6 := by
  rw [woI_M, ← mask_k p hp, Int32.and_comm (woM (63 &&& (nI p ^^^ (-1))) 6) 262143, ← Int32.and_assoc, and18 hn]
theorem wo_eq {n p : Nat} (hn : n < 262144) (hp : p < 64) : woI (nI n) (nI p) 6 = nI n &&& dgs (63 ^^^ nI p) 6 := by
  rw [woI_M, ← mask_w p hp, Int32.and_comm (woM (nI p) 6) 262143, ← Int32.and_assoc, and18 hn]
theorem key_nn {n p : Nat} (hp : p < 64) : ¬ nI n &&& dgs (nI p) 6 = (-9) := by
  rw [← mask_k p hp, ← Int32.and_assoc]
  obtain ⟨j, hj, e⟩ := pk_andE (nI n &&& woM (63 &&& (nI p ^^^ (-1))) 6) (m := 262143) 18 (by decide)
  rw [e]
  exact nI_n9 (by omega)
theorem all_d : dgs 63 6 = 262143 := by decide +kernel
theorem insN_cong {p p' : Nat → Bool} {h h' : Nat → Int32} : ∀ {n : Nat}, (∀ j, j < n → p j = p' j) → (∀ j, j < n → p j = true → h j = h' j) → insN p h n = insN p' h' n
  | 0, _, _ => rfl
  | n + 1, h1, h2 => by
    have ih := insN_cong (n := n) (fun j hj => h1 j (by omega)) (fun j hj => h2 j (by omega))
    cases q : p n with
    | true => rw [insN_t q, insN_t ((h1 n (by omega)).symm.trans q), ih, h2 n (by omega) q]
    | false => rw [insN_f q, insN_f ((h1 n (by omega)).symm.trans q), ih]
theorem insN_leq {p : Nat → Bool} {h h' : Nat → Int32} : ∀ {n : Nat}, (∀ i j, i < n → j < n → (h i = h j ↔ h' i = h' j)) → (insN p h n).length = (insN p h' n).length
  | 0, _ => rfl
  | n + 1, hh => by
    have ih := insN_leq (p := p) (n := n) (fun i j hi hj => hh i j (by omega) (by omega))
    cases q : p n with
    | false => rw [insN_f q, insN_f q, ih]
    | true =>
      rw [insN_t q, insN_t q]
      have hm : h n ∈ insN p h n ↔ h' n ∈ insN p h' n := by
        rw [mem_insN, mem_insN]
        constructor
        · rintro ⟨i, a1, a2, a3⟩
          exact ⟨i, a1, a2, (hh i n (by omega) (by omega)).mp a3⟩
        · rintro ⟨i, a1, a2, a3⟩
          exact ⟨i, a1, a2, (hh i n (by omega) (by omega)).mpr a3⟩
      by_cases z : h n ∈ insN p h n
      · rw [ins_mem (insN_sor p h n) z, ins_mem (insN_sor p h' n) (hm.mp z), ih]
      · rw [ins_len (insN_sor p h n) z, ins_len (insN_sor p h' n) (fun y => z (hm.mpr y)), ih]
theorem smL_cong {p q : Nat → Bool} {f : Nat → Int32} : ∀ {n : Nat}, (∀ k, k < n → p k = q k) → smL p f n = smL q f n
  | 0, _ => rfl
  | n + 1, h => by
    show smL p f n + (bif p n then (f n).toInt64 else 0) = smL q f n + (bif q n then (f n).toInt64 else 0)
    rw [smL_cong (n := n) (fun k hk => h k (by omega)), h n (by omega)]
theorem cnI_cong {p q : Nat → Bool} : ∀ {n : Nat}, (∀ k, k < n → p k = q k) → cnI p n = cnI q n
  | 0, _ => rfl
  | n + 1, h => by
    show cnI p n + (bif p n then 1 else 0) = cnI q n + (bif q n then 1 else 0)
    rw [cnI_cong (n := n) (fun k hk => h k (by omega)), h n (by omega)]
theorem senB_iff (p : Nat → Bool) (q : Nat → Int32) (i : Nat) : ∀ n, senB p q i n = true ↔ ∃ k, k < n ∧ p k = true ∧ q k = nI i
  | 0 => ⟨fun h => Bool.noConfusion h, fun ⟨k, h, _⟩ => absurd h (Nat.not_lt_zero k)⟩
  | n + 1 => by
    show (senB p q i n || (p n && decide (q n = nI i))) = true ↔ _
    rw [Bool.or_eq_true, Bool.and_eq_true, decide_eq_true_eq, senB_iff p q i n]
    constructor
    · rintro (⟨k, a, b⟩ | ⟨a, b⟩)
      · exact ⟨k, by omega, b⟩
      · exact ⟨n, by omega, a, b⟩
    · rintro ⟨k, a, b, c⟩
      rcases Nat.lt_or_ge k n with z | z
      · exact Or.inl ⟨k, z, b, c⟩
      · obtain rfl : k = n := by omega
        exact Or.inr ⟨b, c⟩
section PE
variable {g : Nat → Int32} {ar : Nat → Nat → Int32} {tk ns np na : Nat}
theorem MI.sn (hI : MI g ar tk ns np na) {k : Nat} (hk : k < np) : ∃ j, j < ns ∧ ar 11 k = nI j ∧ sNm ar k = ar 4 j := by
  obtain ⟨j, h1, h2⟩ := hI.of k hk
  have := hI.ser.2
  exact ⟨j, h1, h2, by show ar 4 (ar 11 k).toNatClampNeg = _; rw [h2, nI_clamp (by omega)]⟩
theorem getD_at {L : List Int32} {i : Nat} (h : i < L.length) : L.getD i 0 = L[i] := (List.getElem_eq_getD _).symm
/-- the names that were seen, series by series, or sample by sample -/
theorem gath (hI : MI g ar tk ns np na) (p : Nat → Bool) (P : Int32 → Bool) (h : Int32 → Int32) : insN (fun j => senB p (ar 11) j np && P (ar 4 j)) (fun j => h (ar 4 j)) ns = insN (fun j => P ((insN p (sNm ar) np).getD j 0)) (fun j => h ((insN p (sNm ar) np).getD j 0)) (insN p (sNm ar) np).length := by
  refine Sor.ext (insN_sor _ _ _) (insN_sor _ _ _) (fun x => ?_)
  rw [mem_insN, mem_insN]
  have hns := hI.ser.2
  constructor
  · rintro ⟨j, h1, h2, h3⟩
    rw [Bool.and_eq_true, senB_iff] at h2
    obtain ⟨⟨k, a1, a2, a3⟩, h4⟩ := h2
    have hm : ar 4 j ∈ insN p (sNm ar) np := mem_insN.mpr ⟨k, a1, a2, by show ar 4 (ar 11 k).toNatClampNeg = _; rw [a3, nI_clamp (by omega)]⟩
    obtain ⟨i, hi, e⟩ := List.mem_iff_getElem.mp hm
    refine ⟨i, hi, ?_, ?_⟩
    · rw [getD_at hi, e]; exact h4
    · rw [getD_at hi, e]; exact h3
  · rintro ⟨i, hi, h2, h3⟩
    rw [getD_at hi] at h2 h3
    obtain ⟨k, a1, a2, a3⟩ := mem_insN.mp (List.getElem_mem hi)
    obtain ⟨j, b1, b2, b3⟩ := hI.sn a1
    rw [← a3, b3] at h2 h3
    refine ⟨j, b1, ?_, h3⟩
    rw [Bool.and_eq_true, senB_iff]
    exact ⟨⟨k, a1, a2, b2⟩, h2⟩
theorem gath1 (hI : MI g ar tk ns np na) (p : Nat → Bool) (h : Int32 → Int32) : insN (fun j => senB p (ar 11) j np) (fun j => h (ar 4 j)) ns = insN (fun _ => true) (fun j => h ((insN p (sNm ar) np).getD j 0)) (insN p (sNm ar) np).length := by
  rw [← gath hI p (fun _ => true) h]
  exact insN_cong (fun j _ => (Bool.and_true _).symm) (fun _ _ _ => rfl)
theorem unl_eq (hI : MI g ar tk ns np na) {pm : Nat} (hp : pm < 64) (p : Nat → Bool) : insN (fun j => senB p (ar 11) j np) (fun j => woI (ar 4 j) (nI pm) 6) ns = LN (insN p (sNm ar) np) (dgs (63 ^^^ nI pm) 6) (insN p (sNm ar) np).length := by
  show _ = insN (fun _ => true) (fun j => (insN p (sNm ar) np).getD j 0 &&& dgs (63 ^^^ nI pm) 6) (insN p (sNm ar) np).length
  rw [← gath1 hI p (fun y => y &&& dgs (63 ^^^ nI pm) 6)]
  refine insN_cong (fun _ _ => rfl) (fun j hj _ => ?_)
  obtain ⟨n, h1, h2⟩ := hI.nam j hj
  rw [h2, wo_eq h1 hp]
theorem seen_eq (hI : MI g ar tk ns np na) (p : Nat → Bool) : ∀ n, n ≤ np → lkN p (ar 11) n = (insN p (sNm ar) n).length
  | 0, _ => rfl
  | n + 1, hn => by
    have ih := seen_eq hI p n (by omega)
    have hns := hI.ser.2
    obtain ⟨j, b1, b2, b3⟩ := hI.sn (k := n) (by omega)
    show (bif (p n && !(senB p (ar 11) (ar 11 n).toNatClampNeg n)) then lkN p (ar 11) n + 1 else lkN p (ar 11) n) = _
    cases q : p n with
    | false => rw [insN_f q, Bool.false_and, cond_false, ih]
    | true =>
      rw [insN_t q, Bool.true_and, b2, nI_clamp (by omega), b3]
      have hm : ar 4 j ∈ insN p (sNm ar) n ↔ senB p (ar 11) j n = true := by
        rw [mem_insN, senB_iff]
        constructor
        · rintro ⟨i, a1, a2, a3⟩
          obtain ⟨j2, c1, c2, c3⟩ := hI.sn (k := i) (by omega)
          rw [c3] at a3
          obtain rfl := hI.inj j2 j c1 b1 a3
          exact ⟨i, a1, a2, c2⟩
        · rintro ⟨i, a1, a2, a3⟩
          exact ⟨i, a1, a2, by show ar 4 (ar 11 i).toNatClampNeg = _; rw [a3, nI_clamp (by omega)]⟩
      cases z : senB p (ar 11) j n with
      | true => rw [ins_mem (insN_sor _ _ _) (hm.mpr z), Bool.not_true, cond_false, ih]
      | false => rw [ins_len (insN_sor _ _ _) (fun y => by rw [hm.mp y] at z; cases z), Bool.not_false, cond_true, ih]
theorem sh3 : ∀ v, v < 8 → (((3 * nI v) &&& 31).toBitVec.smod 32).toNat = 3 * v := by decide +kernel
theorem dgt_n {a v : Nat} (ha : a < 2 ^ 31) (hv : v < 8) : dgt (nI a) (nI v) = nI (a / 2 ^ (3 * v) % 8) := by
  show (nI a >>> ((3 * nI v) &&& 31)) &&& 7 = _
  rw [pk_shrN ha _ (3 * v) (sh3 v hv), show (7 : Int32) = nI (2 ^ 3 - 1) from rfl, fa_mask]
theorem dg_nat (a k : Nat) : ((a >>> k) &&& 7) <<< k = a &&& (7 <<< k) := by
  apply Nat.eq_of_testBit_eq
  intro i
  rw [Nat.testBit_shiftLeft, Nat.testBit_and, Nat.testBit_and, Nat.testBit_shiftRight, Nat.testBit_shiftLeft]
  by_cases h : k ≤ i
  · rw [show k + (i - k) = i by omega]
    simp [h]
  · simp [h]
theorem dg_back (a k : Nat) : (a &&& (7 <<< k)) >>> k = (a >>> k) &&& 7 := by
  rw [← dg_nat, Nat.shiftLeft_shiftRight]
theorem val_mask : ∀ m, m < 6 → dgs (63 ^^^ (63 ^^^ ((1 : Int32) <<< (nI m &&& 31)))) 6 = nI (7 <<< (3 * m)) := by decide +kernel
theorem val_iff {a b m : Nat} (ha : a < 262144) (hb : b < 262144) (hm : m < 6) : dgt (nI a) (nI m) = dgt (nI b) (nI m) ↔ nI a &&& nI (7 <<< (3 * m)) = nI b &&& nI (7 <<< (3 * m)) := by
  rw [dgt_n (by omega) (by omega), dgt_n (by omega) (by omega), fa_and, fa_and]
  have e : ∀ x : Nat, x / 2 ^ (3 * m) % 8 = (x >>> (3 * m)) &&& 7 := fun x => by
    rw [Nat.shiftRight_eq_div_pow, show (7 : Nat) = 2 ^ 3 - 1 from rfl, Nat.and_two_pow_sub_one_eq_mod]
  have ea : a &&& 7 <<< (3 * m) ≤ a := Nat.and_le_left
  have eb : b &&& 7 <<< (3 * m) ≤ b := Nat.and_le_left
  rw [nI_eq (by omega) (by omega), nI_eq (by omega) (by omega), e, e]
  constructor
  · intro h
    rw [← dg_nat, ← dg_nat, h]
  · intro h
    rw [← dg_back, ← dg_back, h]
theorem val_eq (hI : MI g ar tk ns np na) {m : Nat} (hm : m < 6) (p : Nat → Bool) : (insN (fun j => senB p (ar 11) j np) (fun j => dgt (ar 4 j) (nI m)) ns).length = (LN (insN p (sNm ar) np) (dgs (63 ^^^ (63 ^^^ ((1 : Int32) <<< (nI m &&& 31)))) 6) (insN p (sNm ar) np).length).length := by
  rw [val_mask m hm]
  show _ = (insN (fun _ => true) (fun j => (insN p (sNm ar) np).getD j 0 &&& nI (7 <<< (3 * m))) (insN p (sNm ar) np).length).length
  rw [← gath1 hI p (fun y => y &&& nI (7 <<< (3 * m)))]
  refine insN_leq (fun i j hi hj => ?_)
  obtain ⟨a, a1, a2⟩ := hI.nam i hi
  obtain ⟨b, b1, b2⟩ := hI.nam j hj
  rw [a2, b2]
  exact val_iff a1 b1 hm
theorem keys_eq (hI : MI g ar tk ns np na) {a : Nat} (ha : a < na) (p : Nat → Bool) : insN (fun j => senB p (ar 11) j np && decide (ar 19 a = (-9) ∨ dgt (ar 4 j) (ar 19 a) = ar 20 a)) (fun j => woI (ar 4 j) (63 &&& (ar 18 a ^^^ (-1))) 6) ns = LK ar a (insN p (sNm ar) np) (insN p (sNm ar) np).length := by
  show _ = insN (fun j => decide (¬ kyC ar a ((insN p (sNm ar) np).getD j 0) = (-9))) (fun j => kyC ar a ((insN p (sNm ar) np).getD j 0)) (insN p (sNm ar) np).length
  rw [← gath hI p (fun y => decide (¬ kyC ar a y = (-9))) (kyC ar a)]
  obtain ⟨q, q1, q2⟩ := hI.par a ha
  have hk : ∀ j, j < ns → (decide (ar 19 a = (-9) ∨ dgt (ar 4 j) (ar 19 a) = ar 20 a) = decide (¬ kyC ar a (ar 4 j) = (-9))) ∧ ((ar 19 a = (-9) ∨ dgt (ar 4 j) (ar 19 a) = ar 20 a) → woI (ar 4 j) (63 &&& (ar 18 a ^^^ (-1))) 6 = kyC ar a (ar 4 j)) := by
    intro j hj
    obtain ⟨n, n1, n2⟩ := hI.nam j hj
    unfold kyC
    by_cases z : ar 19 a = (-9) ∨ dgt (ar 4 j) (ar 19 a) = ar 20 a
    · rw [if_pos z, decide_eq_true z]
      refine ⟨(decide_eq_true ?_).symm, fun _ => ?_⟩
      · rw [n2, q2]; exact key_nn q1
      · rw [n2, q2]; exact key_eq n1 q1
    · rw [if_neg z, decide_eq_false z]
      exact ⟨(decide_eq_false (fun h => h rfl)).symm, fun h => absurd h z⟩
  refine insN_cong (fun j hj => ?_) (fun j hj h => ?_)
  · show (senB p (ar 11) j np && _) = (senB p (ar 11) j np && _)
    rw [(hk j hj).1]
  · rw [Bool.and_eq_true] at h
    exact (hk j hj).2 (of_decide_eq_true h.2)
theorem grow_eq (hI : MI g ar tk ns np na) {i : Nat} (hi : i < ns) (f t : Int32) : smL (fun k => decide (ar 11 k = nI i) && inSp (ar 12) f t k) (ar 13) np = smL (fun k => inSp (ar 12) f t k && decide (sNm ar k &&& dgs 63 6 = ar 4 i &&& dgs 63 6)) (ar 13) np := by
  refine smL_cong (fun k hk => ?_)
  obtain ⟨j, b1, b2, b3⟩ := hI.sn hk
  have hns := hI.ser.2
  obtain ⟨a, a1, a2⟩ := hI.nam i hi
  obtain ⟨b, c1, c2⟩ := hI.nam j b1
  show (decide (ar 11 k = nI i) && inSp (ar 12) f t k) = (inSp (ar 12) f t k && decide (sNm ar k &&& dgs 63 6 = ar 4 i &&& dgs 63 6))
  rw [Bool.and_comm]
  congr 1
  rw [b3, all_d, a2, c2, and18 a1, and18 c1, b2]
  refine decide_eq_decide.mpr ?_
  constructor
  · intro h
    obtain rfl := (nI_eq (by omega) (by omega)).mp h
    rw [← a2, ← c2]
  · intro h
    rw [← a2, ← c2] at h
    rw [hI.inj j i b1 hi h]
theorem ans_ok (hI : MI g ar tk ns np na) {a n : Nat} (ha : a < na) (hn : n < 262144) : kyC ar a (nI n) = nI n ↔ woI (nI n) (63 &&& (ar 18 a ^^^ (-1))) 6 = nI n ∧ (ar 19 a = (-9) ∨ dgt (nI n) (ar 19 a) = ar 20 a) := by
  obtain ⟨q, q1, q2⟩ := hI.par a ha
  rw [q2, key_eq hn q1]
  unfold kyC
  by_cases z : ar 19 a = (-9) ∨ dgt (nI n) (ar 19 a) = ar 20 a
  · rw [if_pos z, q2]
    exact ⟨fun h => ⟨h, z⟩, fun h => h.1⟩
  · rw [if_neg z]
    exact ⟨fun h => absurd h.symm (nI_n9 (by omega)), fun h => absurd h.2 z⟩
theorem ans_eq (hI : MI g ar tk ns np na) {a n : Nat} (ha : a < na) (hn : n < 262144) (hk : kyC ar a (nI n) = nI n) (f t : Int32) : smL (fun j => inSp (ar 12) f t j && decide (woI (ar 4 (ar 11 j).toNatClampNeg) (63 &&& (ar 18 a ^^^ (-1))) 6 = nI n)) (ar 13) np = smL (fun k => inSp (ar 12) f t k && decide (sNm ar k &&& dgs (ar 18 a) 6 = nI n &&& dgs (ar 18 a) 6)) (ar 13) np := by
  have hw := ((ans_ok hI ha hn).mp hk).1
  refine smL_cong (fun k hk9 => ?_)
  obtain ⟨j, b1, b2, b3⟩ := hI.sn hk9
  obtain ⟨b, c1, c2⟩ := hI.nam j b1
  obtain ⟨q, q1, q2⟩ := hI.par a ha
  show (inSp (ar 12) f t k && decide (woI (sNm ar k) (63 &&& (ar 18 a ^^^ (-1))) 6 = nI n)) = _
  rw [q2] at hw
  rw [b3, c2, q2, key_eq c1 q1, ← key_eq hn q1, hw]
/-- a count of unlike ones -/
theorem cnt_len {p : Nat → Bool} {h : Nat → Int32} : ∀ {n : Nat}, (∀ i j, i < n → j < n → h i = h j → i = j) → cnI p n = nI (insN p h n).length
  | 0, _ => nI_0.symm
  | n + 1, hh => by
    have ih := cnt_len (p := p) (n := n) (fun i j hi hj => hh i j (by omega) (by omega))
    show cnI p n + (bif p n then 1 else 0) = _
    cases q : p n with
    | false => rw [insN_f q, cond_false, Int32.add_zero, ih]
    | true =>
      rw [insN_t q, cond_true, ih, ins_len (insN_sor _ _ _) (fun y => ?_), nI_1]
      obtain ⟨i, a1, a2, a3⟩ := mem_insN.mp y
      have := hh i n (by omega) (by omega) a3
      omega
theorem bill_eq (hI : MI g ar tk ns np na) (mk v : Int32) (p : Nat → Bool) : cnI (fun j => (fun j => senB p (ar 11) j np) j && decide (dgt (ar 4 j) mk = v)) ns = cnI (fun j => decide (dgt ((insN p (sNm ar) np).getD j 0) mk = v)) (insN p (sNm ar) np).length := by
  rw [cnt_len (h := fun j => ar 4 j) (fun i j hi hj e => hI.inj i j hi hj e), cnt_len (h := fun j => (insN p (sNm ar) np).getD j 0) (fun i j hi hj e => ?_)]
  · rw [← gath hI p (fun y => decide (dgt y mk = v)) (fun y => y)]
  · rw [getD_at hi, getD_at hj] at e
    rcases Nat.lt_trichotomy i j with z | z | z
    · have h9 := (insN_sor p (sNm ar) np).get z hj
      rw [e] at h9
      exact absurd h9 (lt_ir _)
    · exact z
    · have h9 := (insN_sor p (sNm ar) np).get z hi
      rw [e] at h9
      exact absurd h9 (lt_ir _)
end PE
