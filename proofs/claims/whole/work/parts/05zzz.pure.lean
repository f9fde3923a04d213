/-! ===== rows of unlike numbers, the least first ===== -/
def ins (v : Int32) : List Int32 → List Int32
  | [] => [v]
  | x :: r => if v < x then v :: x :: r else if v = x then x :: r else x :: ins v r
def Sor (L : List Int32) : Prop := L.Pairwise (fun a b => a < b)
theorem mem_ins {v x : Int32} : ∀ {L : List Int32}, x ∈ ins v L ↔ x = v ∨ x ∈ L
  | [] => by simp [ins]
  | y :: r => by
    unfold ins
    by_cases h1 : v < y
    · rw [if_pos h1]; simp
    · rw [if_neg h1]
      by_cases h2 : v = y
      · rw [if_pos h2]; subst h2; simp
      · rw [if_neg h2, List.mem_cons, mem_ins, List.mem_cons]
        constructor
        · rintro (h | h | h)
          · exact Or.inr (Or.inl h)
          · exact Or.inl h
          · exact Or.inr (Or.inr h)
        · rintro (h | h | h)
          · exact Or.inr (Or.inl h)
          · exact Or.inl h
          · exact Or.inr (Or.inr h)
theorem lt_tr {a b c : Int32} (h1 : a < b) (h2 : b < c) : a < c := by
  rw [fa_lt] at *; omega
theorem lt_ir (a : Int32) : ¬ a < a := by rw [fa_lt]; omega
theorem lt_of_n {a b : Int32} (h1 : ¬ a < b) (h2 : ¬ a = b) : b < a := by
  rw [fa_lt] at *; rw [fa_eq] at h2; omega
theorem Sor.ins9 {v : Int32} : ∀ {L : List Int32}, Sor L → Sor (ins v L)
  | [], _ => List.pairwise_singleton _ _
  | y :: r, h => by
    have h0 := List.pairwise_cons.mp h
    show Sor (if v < y then v :: y :: r else if v = y then y :: r else y :: ins v r)
    by_cases h1 : v < y
    · rw [if_pos h1]
      refine List.pairwise_cons.mpr ⟨fun a ha => ?_, h⟩
      rcases List.mem_cons.mp ha with e | ha
      · subst e; exact h1
      · exact lt_tr h1 (h0.1 a ha)
    · rw [if_neg h1]
      by_cases h2 : v = y
      · rw [if_pos h2]; exact h
      · rw [if_neg h2]
        refine List.pairwise_cons.mpr ⟨fun a ha => ?_, Sor.ins9 h0.2⟩
        rcases mem_ins.mp ha with e | ha
        · subst e; exact lt_of_n h1 h2
        · exact h0.1 a ha
theorem Sor.ext : ∀ {L M : List Int32}, Sor L → Sor M → (∀ x, x ∈ L ↔ x ∈ M) → L = M
  | [], [], _, _, _ => rfl
  | [], y :: r, _, _, h => absurd ((h y).mpr List.mem_cons_self) List.not_mem_nil
  | y :: r, [], _, _, h => absurd ((h y).mp List.mem_cons_self) List.not_mem_nil
  | x :: r, y :: t, h1, h2, h => by
    have a1 := List.pairwise_cons.mp h1
    have a2 := List.pairwise_cons.mp h2
    have e : x = y := by
      rcases List.mem_cons.mp ((h x).mp List.mem_cons_self) with e | m1
      · exact e
      · rcases List.mem_cons.mp ((h y).mpr List.mem_cons_self) with e | m2
        · exact e.symm
        · exact absurd (lt_tr (a1.1 y m2) (a2.1 x m1)) (lt_ir x)
    subst e
    have : r = t := Sor.ext a1.2 a2.2 (fun z => by
      constructor
      · intro hz
        rcases List.mem_cons.mp ((h z).mp (List.mem_cons_of_mem _ hz)) with e | m
        · subst e; exact absurd (a1.1 z hz) (lt_ir z)
        · exact m
      · intro hz
        rcases List.mem_cons.mp ((h z).mpr (List.mem_cons_of_mem _ hz)) with e | m
        · subst e; exact absurd (a2.1 z hz) (lt_ir z)
        · exact m)
    rw [this]
theorem Sor.nodup {L : List Int32} (h : Sor L) : L.Nodup := List.Pairwise.imp (fun {a b} hab e => by subst e; exact lt_ir a hab) h
theorem ins_mem {v : Int32} {L : List Int32} (h : Sor L) (hv : v ∈ L) : ins v L = L := Sor.ext h.ins9 h (fun x => by
  rw [mem_ins]
  exact ⟨fun q => q.elim (fun e => e ▸ hv) id, Or.inr⟩)
theorem Sor.get {L : List Int32} (h : Sor L) {i j : Nat} (hij : i < j) (hj : j < L.length) : L[i] < L[j] := List.pairwise_iff_getElem.mp h i j (by omega) hj hij
theorem ins_at {v : Int32} {L : List Int32} (h : Sor L) {k : Nat} (hk : k ≤ L.length) (h1 : ∀ i (hi : i < L.length), i < k → L[i] < v) (h2 : ∀ i (hi : i < L.length), k ≤ i → v < L[i]) : ins v L = L.take k ++ v :: L.drop k := by
  refine Sor.ext h.ins9 ?_ (fun x => ?_)
  · refine List.pairwise_append.mpr ⟨List.Pairwise.sublist (List.take_sublist _ _) h, List.pairwise_cons.mpr ⟨fun a ha => ?_, List.Pairwise.sublist (List.drop_sublist _ _) h⟩, fun a ha b hb => ?_⟩
    · obtain ⟨i, hi, rfl⟩ := List.mem_iff_getElem.mp ha
      rw [List.getElem_drop]
      exact h2 _ _ (by omega)
    · obtain ⟨i, hi, rfl⟩ := List.mem_iff_getElem.mp ha
      rw [List.getElem_take]
      have hi2 : i < k := by rw [List.length_take] at hi; omega
      have hv : L[i] < v := h1 i (by omega) hi2
      rcases List.mem_cons.mp hb with e | hb
      · rw [e]; exact hv
      · obtain ⟨j, hj, rfl⟩ := List.mem_iff_getElem.mp hb
        rw [List.getElem_drop]
        exact lt_tr hv (h2 _ _ (by omega))
  · rw [mem_ins]
    rw [List.mem_append, List.mem_cons]
    have : x ∈ L ↔ x ∈ L.take k ∨ x ∈ L.drop k := by rw [← List.mem_append, List.take_append_drop]
    rw [this]
    constructor
    · rintro (h | h | h)
      · exact Or.inr (Or.inl h)
      · exact Or.inl h
      · exact Or.inr (Or.inr h)
    · rintro (h | h | h)
      · exact Or.inr (Or.inl h)
      · exact Or.inl h
      · exact Or.inr (Or.inr h)
/-- a row of the machine that begins with the numbers of L -/
def UL (f : Nat → Int32) (L : List Int32) : Prop := ∀ i (h : i < L.length), f i = L[i]
theorem UL.nil (f : Nat → Int32) : UL f [] := fun i h => absurd h (Nat.not_lt_zero i)
theorem UL.cong {f f2 : Nat → Int32} {L : List Int32} (h : UL f L) (hf : ∀ i, i < L.length → f2 i = f i) : UL f2 L := fun i hi => (hf i hi).trans (h i hi)
theorem UL.put {f f2 : Nat → Int32} {L : List Int32} {v : Int32} (h : UL f L) {k : Nat} (hk : k ≤ L.length) (h1 : ∀ i, i < k → f2 i = f i) (h2 : f2 k = v) (h3 : ∀ i, k < i → i ≤ L.length → f2 i = f (i - 1)) : UL f2 (L.take k ++ v :: L.drop k) := by
  intro i hi
  rw [List.length_append, List.length_cons, List.length_take, List.length_drop] at hi
  rcases Nat.lt_trichotomy i k with q | q | q
  · rw [List.getElem_append_left (by rw [List.length_take]; omega), List.getElem_take, h1 i q]
    exact h i (by omega)
  · subst q
    rw [List.getElem_append_right (by rw [List.length_take]; omega)]
    simp only [List.length_take, Nat.min_eq_left hk, Nat.sub_self, List.getElem_cons_zero]
    exact h2
  · rw [List.getElem_append_right (by rw [List.length_take]; omega), h3 i q (by omega), h (i - 1) (by omega)]
    obtain ⟨j, rfl⟩ : ∃ j, i = k + (j + 1) := ⟨i - k - 1, by omega⟩
    simp only [List.length_take, Nat.min_eq_left hk, Nat.add_sub_cancel_left, List.getElem_cons_succ, List.getElem_drop]
    rfl
theorem ins_len {v : Int32} {L : List Int32} (h : Sor L) (hv : v ∉ L) : (ins v L).length = L.length + 1 := by
  have p : (ins v L).Perm (v :: L) := (List.perm_ext_iff_of_nodup h.ins9.nodup (List.nodup_cons.mpr ⟨hv, h.nodup⟩)).mpr (fun x => by rw [mem_ins, List.mem_cons])
  rw [p.length_eq, List.length_cons]
theorem ins_le (v : Int32) : ∀ L : List Int32, (ins v L).length ≤ L.length + 1
  | [] => Nat.le_refl _
  | y :: r => by
    unfold ins
    by_cases h1 : v < y
    · rw [if_pos h1]; exact Nat.le_refl _
    · rw [if_neg h1]
      by_cases h2 : v = y
      · rw [if_pos h2]; simp
      · rw [if_neg h2]; simp only [List.length_cons]; have := ins_le v r; omega
/-- put in, one by one, those that are wanted -/
def insN (p : Nat → Bool) (h : Nat → Int32) : Nat → List Int32
  | 0 => []
  | i + 1 => bif p i then ins (h i) (insN p h i) else insN p h i
theorem insN_t {p : Nat → Bool} {h : Nat → Int32} {i : Nat} (q : p i = true) : insN p h (i + 1) = ins (h i) (insN p h i) := by simp [insN, q]
theorem insN_f {p : Nat → Bool} {h : Nat → Int32} {i : Nat} (q : p i = false) : insN p h (i + 1) = insN p h i := by simp [insN, q]
theorem insN_sor (p : Nat → Bool) (h : Nat → Int32) : ∀ n, Sor (insN p h n)
  | 0 => List.Pairwise.nil
  | i + 1 => by
    cases q : p i with
    | true => rw [insN_t q]; exact (insN_sor p h i).ins9
    | false => rw [insN_f q]; exact insN_sor p h i
theorem insN_len (p : Nat → Bool) (h : Nat → Int32) : ∀ n, (insN p h n).length ≤ n
  | 0 => Nat.le_refl _
  | i + 1 => by
    cases q : p i with
    | true => rw [insN_t q]; have := ins_le (h i) (insN p h i); have := insN_len p h i; omega
    | false => rw [insN_f q]; have := insN_len p h i; omega
theorem mem_insN {p : Nat → Bool} {h : Nat → Int32} {x : Int32} : ∀ {n : Nat}, x ∈ insN p h n ↔ ∃ i, i < n ∧ p i = true ∧ h i = x
  | 0 => ⟨fun q => absurd q List.not_mem_nil, fun ⟨i, q, _⟩ => absurd q (Nat.not_lt_zero i)⟩
  | n + 1 => by
    have ih := @mem_insN p h x n
    cases q : p n with
    | true =>
      rw [insN_t q, mem_ins, ih]
      constructor
      · rintro (e | ⟨i, h1, h2, h3⟩)
        · exact ⟨n, by omega, q, e.symm⟩
        · exact ⟨i, by omega, h2, h3⟩
      · rintro ⟨i, h1, h2, h3⟩
        rcases Nat.lt_or_ge i n with r | r
        · exact Or.inr ⟨i, r, h2, h3⟩
        · obtain rfl : i = n := by omega
          exact Or.inl h3.symm
    | false =>
      rw [insN_f q, ih]
      constructor
      · rintro ⟨i, h1, h2, h3⟩
        exact ⟨i, by omega, h2, h3⟩
      · rintro ⟨i, h1, h2, h3⟩
        rcases Nat.lt_or_ge i n with r | r
        · exact ⟨i, r, h2, h3⟩
        · obtain rfl : i = n := by omega
          rw [q] at h2; cases h2
