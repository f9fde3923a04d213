/-! ===== the class's world: its fixed cells at the places 0 to 11, its lists' rows and objects behind the reference ===== -/
def CL (E : gE) (zw : va_W) (q ci a n : Nat) (G : Nat → List Value) (qe : Nat) (pl : Nat → Nat) : Prop :=
  ∃ (mo : Int32) (ea : Nat) (f : Nat → Option Nat), zw[q]? = some (a, .inr (0, [.int mo, .ref ea, .int (nI n)])) ∧ ((ea = gDe E ∧ n = 0 ∧ qe = 0) ∨ (31 ≤ qe ∧ ∃ cap : Nat, zw[qe]? = some (ea, .inl (gO E, cap, .inr (.inr (.inr (.inr f))))) ∧ n ≤ cap ∧ 0 < cap ∧ cap ≤ 3000)) ∧ (∀ i, i < n → ∃ y : Nat, f i = some y ∧ zw[pl i]? = some (y, .inr (ci, G i)) ∧ 31 ≤ pl i) ∧ (∀ i j, i < n → j < n → pl i = pl j → i = j)
theorem CL.keep {E : gE} {zw w1 : va_W} {q ci a n qe : Nat} {G : Nat → List Value} {pl : Nat → Nat} (h : CL E zw q ci a n G qe pl) (hw : ∀ k, (k = q ∨ 31 ≤ k) → w1[k]? = zw[k]?) : CL E w1 q ci a n G qe pl := by
  obtain ⟨mo, ea, f, h1, h2, h3, h4⟩ := h
  refine ⟨mo, ea, f, (hw q (Or.inl rfl)).trans h1, ?_, fun i hi => ?_, h4⟩
  · rcases h2 with h2 | ⟨h5, cap, h6, h7⟩
    · exact Or.inl h2
    · exact Or.inr ⟨h5, cap, (hw qe (Or.inr h5)).trans h6, h7⟩
  · obtain ⟨y, z1, z2, z3⟩ := h3 i hi
    exact ⟨y, z1, (hw _ (Or.inr z3)).trans z2, z3⟩
theorem CL.cell {E : gE} {zw : va_W} {q ci a n qe : Nat} {G : Nat → List Value} {pl : Nat → Nat} (h : CL E zw q ci a n G qe pl) : ∃ fs : List Value, zw[q]? = some (a, .inr (0, fs)) := by
  obtain ⟨mo, ea, f, h1, -⟩ := h
  exact ⟨_, h1⟩
theorem CL.size (l : Launch) {E : gE} {zw : va_W} {q ci a n qe : Nat} {G : Nat → List Value} {pl : Nat → Nat} (h : CL E zw q ci a n G qe pl) : CtI l yJx4a65c_size_8abf5 wsJx4a65c_size_8abf5 ({ frames := 0, cells := 0, slots := 0, locals := 0 }) E [.ref a] zw (fun r w1 => zw = w1 ∧ r = nI n) 0 0 := by
  obtain ⟨mo, ea, f, h1, -⟩ := h
  exact c_Jx4a65c_size_8abf5 l E zw h1
theorem CL.get (l : Launch) {E : gE} {zw : va_W} {q ci a n qe : Nat} {G : Nat → List Value} {pl : Nat → Nat} (h : CL E zw q ci a n G qe pl) {j : Nat} (hj : j < n) : CtA l yJx4a65c_get_915e3 wsJx4a65c_get_915e3 ({ frames := 2, cells := 0, slots := 0, locals := 43 }) E [.ref a, .int (nI j)] zw (fun r w1 => zw = w1 ∧ zw[pl j]? = some (r, .inr (ci, G j))) 0 0 := by
  obtain ⟨mo, ea, f, h1, h2, h3, h4⟩ := h
  obtain ⟨y, z1, z2, z3⟩ := h3 j hj
  rcases h2 with ⟨-, h2, -⟩ | ⟨h5, cap, h6, h7, h8, h9⟩
  · rw [h2] at hj
    exact absurd hj (Nat.not_lt_zero j)
  · refine Ct.mono (c_Jx4a65c_get_915e3 l E zw h1 h6 hj h7 (by omega) z1) (fun v w1 hp => ?_)
    obtain ⟨r, hr, hw, rfl⟩ := hp
    exact ⟨r, hr, hw, z2⟩
theorem CL.len {E : gE} {zw : va_W} {q ci a n qe : Nat} {G : Nat → List Value} {pl : Nat → Nat} (h : CL E zw q ci a n G qe pl) : q < zw.length := by
  obtain ⟨mo, ea, f, h1, -⟩ := h
  exact at_lt h1
def cfs (ca : Nat → Nat) (t : Int32) : List Value := [.int t, .ref (ca 1), .ref (ca 2), .ref (ca 3), .ref (ca 4), .ref (ca 7), .ref (ca 8), .ref (ca 10)]
def serF (ar : Nat → Nat → Int32) (i : Nat) : List Value := [.int (ar 4 i), .int (ar 7 i), .int (ar 8 i), .int (ar 6 i), .int (ar 5 i), .int (ar 9 i)]
def samF (ar : Nat → Nat → Int32) (k : Nat) : List Value := [.int (ar 4 (ar 11 k).toNatClampNeg), .int (ar 12 k), .int (ar 13 k)]
def askF (ar : Nat → Nat → Int32) (a : Nat) : List Value := [.int (ar 18 a), .int (dgs (ar 18 a) 6), .int (ar 19 a), .int (ar 20 a), .int (ar 21 a)]
/-- the class's cells but its two rows of names -/
def CF (E : gE) (ca : Nat → Nat) (zw : va_W) (t : Int32) (ar : Nat → Nat → Int32) (dr ch : Nat → Int32) (ns np na : Nat) (qe : Nat → Nat) (pl : Nat → Nat → Nat) : Prop :=
  zw[0]? = some (ca 0, .inr (6, cfs ca t)) ∧ zw[4]? = some (ca 4, .inr (5, [.ref (ca 5), .ref (ca 6)])) ∧ zw[5]? = some (ca 5, .inl (gI E, 200, .inl dr)) ∧ zw[6]? = some (ca 6, .inl (gI E, 1200, .inl ch)) ∧ zw[7]? = some (ca 7, .inl (gI E, 6, .inl (ar 22))) ∧ CL E zw 1 4 (ca 1) ns (serF ar) (qe 1) (pl 1) ∧ CL E zw 2 3 (ca 2) np (samF ar) (qe 2) (pl 2) ∧ CL E zw 3 1 (ca 3) na (askF ar) (qe 3) (pl 3)
/-- a row of names, the object at the place q, its row behind it -/
def cS (E : gE) (ca : Nat → Nat) (zw : va_W) (q : Nat) (L : List Int32) : Prop :=
  ∃ f : Nat → Int32, zw[q]? = some (ca q, .inr (2, [.ref (ca (q + 1)), .int (nI L.length)])) ∧ zw[q + 1]? = some (ca (q + 1), .inl (gI E, 2000, .inl f)) ∧ UL f L ∧ Sor L ∧ L.length ≤ 2000
theorem cS.keep {E : gE} {ca : Nat → Nat} {zw w1 : va_W} {q : Nat} {L : List Int32} (h : cS E ca zw q L) (h1 : w1[q]? = zw[q]?) (h2 : w1[q + 1]? = zw[q + 1]?) : cS E ca w1 q L := by
  obtain ⟨f, z1, z2, z3⟩ := h
  exact ⟨f, h1.trans z1, h2.trans z2, z3⟩
def nFr (q : Nat) (zw w1 : va_W) : Prop := w1.length = zw.length ∧ ∀ k, k ≠ q → k ≠ q + 1 → w1[k]? = zw[k]?
theorem nFr.rf (q : Nat) (zw : va_W) : nFr q zw zw := ⟨rfl, fun _ _ _ => rfl⟩
theorem nFr.tr {q : Nat} {zw w1 w2 : va_W} (h : nFr q zw w1) (h2 : nFr q w1 w2) : nFr q zw w2 := ⟨h2.1.trans h.1, fun k z1 z2 => (h2.2 k z1 z2).trans (h.2 k z1 z2)⟩
theorem nFr.of {q : Nat} {zw w1 : va_W} (h : oFr q zw w1) : nFr q zw w1 := ⟨h.1, fun k z1 _ => h.2 k z1⟩
/-- all but the two rows of names is as it was -/
def wFr (zw w1 : va_W) : Prop := w1.length = zw.length ∧ ∀ k, (k < 8 ∨ 12 ≤ k) → w1[k]? = zw[k]?
theorem wFr.rf (zw : va_W) : wFr zw zw := ⟨rfl, fun _ _ => rfl⟩
theorem wFr.tr {zw w1 w2 : va_W} (h : wFr zw w1) (h2 : wFr w1 w2) : wFr zw w2 := ⟨h2.1.trans h.1, fun k z => (h2.2 k z).trans (h.2 k z)⟩
theorem wFr.n8 {zw w1 : va_W} (h : nFr 8 zw w1) : wFr zw w1 := ⟨h.1, fun k z => h.2 k (by omega) (by omega)⟩
theorem wFr.n10 {zw w1 : va_W} (h : nFr 10 zw w1) : wFr zw w1 := ⟨h.1, fun k z => h.2 k (by omega) (by omega)⟩
theorem CF.keep {E : gE} {ca : Nat → Nat} {zw w1 : va_W} {t : Int32} {ar : Nat → Nat → Int32} {dr ch : Nat → Int32} {ns np na : Nat} {qe : Nat → Nat} {pl : Nat → Nat → Nat} (h : CF E ca zw t ar dr ch ns np na qe pl) (hw : ∀ k, (k < 8 ∨ 31 ≤ k) → w1[k]? = zw[k]?) : CF E ca w1 t ar dr ch ns np na qe pl := by
  obtain ⟨h0, h4, h5, h6, h7, h1, h2, h3⟩ := h
  exact ⟨(hw 0 (by omega)).trans h0, (hw 4 (by omega)).trans h4, (hw 5 (by omega)).trans h5, (hw 6 (by omega)).trans h6, (hw 7 (by omega)).trans h7, h1.keep (fun k z => hw k (by omega)), h2.keep (fun k z => hw k (by omega)), h3.keep (fun k z => hw k (by omega))⟩
theorem CF.w {E : gE} {ca : Nat → Nat} {zw w1 : va_W} {t : Int32} {ar : Nat → Nat → Int32} {dr ch : Nat → Int32} {ns np na : Nat} {qe : Nat → Nat} {pl : Nat → Nat → Nat} (h : CF E ca zw t ar dr ch ns np na qe pl) (hw : wFr zw w1) : CF E ca w1 t ar dr ch ns np na qe pl := h.keep (fun k z => hw.2 k (by omega))
theorem CF.n {E : gE} {ca : Nat → Nat} {zw w1 : va_W} {t : Int32} {ar : Nat → Nat → Int32} {dr ch : Nat → Int32} {ns np na : Nat} {qe : Nat → Nat} {pl : Nat → Nat → Nat} {q : Nat} (h : CF E ca zw t ar dr ch ns np na qe pl) (hw : nFr q zw w1) (hq : 8 ≤ q) (hq2 : q ≤ 10) : CF E ca w1 t ar dr ch ns np na qe pl := h.keep (fun k z => hw.2 k (by omega) (by omega))
/-- what the class's rows of what is dropped and folded have to do with the reference's -/
def CR (ar : Nat → Nat → Int32) (dr ch : Nat → Int32) : Prop :=
  (∀ t, t < 200 → ∃ j, j < 64 ∧ dr t = nI j) ∧ (∀ t m, t < 200 → m < 6 → ((dr t >>> (nI m &&& 31)) &&& 1 = 1 ↔ ¬ ar 1 (6 * t + m) = 0)) ∧ (∀ i, i < 1200 → ∃ c, c < 2 ^ 24 ∧ ch i = nI c) ∧ (∀ i v, i < 1200 → v < 8 → dgt (ch i) (nI v) = ar 2 (8 * i + v))
/-- the names of the samples -/
def sNm (ar : Nat → Nat → Int32) (k : Nat) : Int32 := ar 4 (ar 11 k).toNatClampNeg
