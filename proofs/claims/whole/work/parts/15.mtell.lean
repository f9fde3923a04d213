theorem splF_spec (f : Nat → Int32) (x : Int32) : ∀ n i, (∃ j, i ≤ j ∧ j < i + n ∧ f j = x ∧ (∀ q, i ≤ q → q < j → ¬ f q = x) ∧ splF f x n i = nI j) ∨ ((∀ q, i ≤ q → q < i + n → ¬ f q = x) ∧ splF f x n i = (-9))
  | 0, i => Or.inr ⟨fun q h1 h2 => absurd h2 (by omega), rfl⟩
  | n + 1, i => by
    by_cases h : f i = x
    · exact Or.inl ⟨i, Nat.le_refl _, by omega, h, fun q h1 h2 => absurd h1 (by omega), if_pos h⟩
    · rcases splF_spec f x n (i + 1) with ⟨j, h1, h2, h3, h4, h5⟩ | ⟨h1, h2⟩
      · refine Or.inl ⟨j, by omega, by omega, h3, fun q a b => ?_, (if_neg h).trans h5⟩
        rcases Nat.lt_or_ge i q with r | r
        · exact h4 q (by omega) b
        · obtain rfl : q = i := by omega
          exact h
      · refine Or.inr ⟨fun q a b => ?_, (if_neg h).trans h2⟩
        rcases Nat.lt_or_ge i q with r | r
        · exact h1 q (by omega) (by omega)
        · obtain rfl : q = i := by omega
          exact h
theorem spl_spec (f : Nat → Int32) (x : Int32) (n : Nat) : (∃ j, j < n ∧ f j = x ∧ (∀ q, q < j → ¬ f q = x) ∧ spl f x n = nI j) ∨ ((∀ q, q < n → ¬ f q = x) ∧ spl f x n = (-9)) := by
  rcases splF_spec f x n 0 with ⟨j, h1, h2, h3, h4, h5⟩ | ⟨h1, h2⟩
  · exact Or.inl ⟨j, by omega, h3, fun q a => h4 q (Nat.zero_le _) a, h5⟩
  · exact Or.inr ⟨fun q a => h1 q (Nat.zero_le _) (by omega), h2⟩
theorem nI_n9 {j : Nat} (h : j < 2 ^ 31) : ¬ nI j = (-9) := fun q => by
  have := congrArg Int32.toInt q
  rw [nI_toInt h, ti_m9] at this
  omega
/-- the reference's rows behind a sample: series j, count y, at the tick t0 -/
def tlG (ar : Nat → Nat → Int32) (j : Nat) (y : Int32) : Prop := 0 < (ar 5 j).toInt ∧ y.toInt < (ar 6 j).toInt
def tlR (ar : Nat → Nat → Int32) (j : Nat) (y : Int32) : Int32 := if ar 5 j = 0 ∨ (0 < (ar 5 j).toInt ∧ y.toInt < (ar 6 j).toInt) then y else y - ar 6 j
def tlA (t0 : Int32) (ar : Nat → Nat → Int32) (j np : Nat) (y : Int32) : Nat → Nat → Int32 :=
  va_up (va_up (va_up (va_up (va_up (va_up (va_up ar 11 (upd (ar 11) np (nI j))) 12 (upd (ar 12) np t0)) 13 (upd (ar 13) np (tlR ar j y))) 9 (upd (ar 9) j (ar 9 j + b01 (0 < (ar 5 j).toInt ∧ y.toInt < (ar 6 j).toInt)))) 5 (upd (ar 5) j (ar 5 j + 1))) 6 (upd (ar 6) j y)) 8 (upd (ar 8) j t0)
theorem inX6_tell_X6 : ∀ x ∈ wsX60, x ∈ wsX6_tell := by decide +kernel
theorem kwX6_tell_35 : Cond.fieldLink RX6 35 "SeriesMarksModel" "of" "[I" ∈ wsX6_tell := by decide +kernel
theorem kwX6_tell_94 : Cond.fieldLink RX6 94 "SeriesMarksModel" "samples" "I" ∈ wsX6_tell := by decide +kernel
theorem kwX6_tell_38 : Cond.fieldLink RX6 38 "SeriesMarksModel" "at" "[I" ∈ wsX6_tell := by decide +kernel
theorem kwX6_tell_65 : Cond.fieldLink RX6 65 "SeriesMarksModel" "tick" "I" ∈ wsX6_tell := by decide +kernel
theorem kwX6_tell_41 : Cond.fieldLink RX6 41 "SeriesMarksModel" "grown" "[I" ∈ wsX6_tell := by decide +kernel
theorem kwX6_tell_20 : Cond.fieldLink RX6 20 "SeriesMarksModel" "many" "[I" ∈ wsX6_tell := by decide +kernel
theorem kwX6_tell_32 : Cond.fieldLink RX6 32 "SeriesMarksModel" "begun" "[I" ∈ wsX6_tell := by decide +kernel
theorem kwX6_tell_23 : Cond.fieldLink RX6 23 "SeriesMarksModel" "latest" "[I" ∈ wsX6_tell := by decide +kernel
theorem kwX6_tell_29 : Cond.fieldLink RX6 29 "SeriesMarksModel" "lastTick" "[I" ∈ wsX6_tell := by decide +kernel
set_option maxHeartbeats 4000000 in
set_option maxRecDepth 100000 in
theorem tl1_X6_tell {p : Program} {l : Launch} {e : Env} {R : Room} {s : State} {m : MethodId} {args : Array Value} {below : List Frame} {meth : Method} {c : Code} {E : gE} {zw : va_W} {w0 : va_W} (C : gC p s m args meth c E cX6_tell 5 wsX6_tell yX6_tell.cls) (hr : meth.sig.returnType = some .int) {ad : Nat → Nat} {g : Nat → Int32} {ar : Nat → Nat → Int32} {np j : Nat} (hnp : g 10 = nI np) (hnp2 : np < 2000) (hj : j < 120) {x y : Int32} {post : Int32 → va_W → Prop} (hM : mAt zw (mcl E ad g ar)) (hF : mFr w0 zw) (hP : ∀ zw : va_W, mAt zw (mcl E ad (upd g 10 (nI (np + 1))) (tlA (g 0) ar j np y)) → mFr w0 zw → post (nI j) zw) : V p l e R s m args below meth c E 5 zw 0 0 (MQ below (gQ E (fun v w1 => ∃ r : Int32, v = some (.int r) ∧ post r w1)) args s 0 0 (gA E)) 140 [(0, .ref (ad 0)), (1, .int x), (2, .int y), (3, .int (nI j))] [.int (b01 (0 < (ar 5 j).toInt ∧ y.toInt < (ar 6 j).toInt))] := by
  refine v_istore C dX6_tell_140 (by decide) rfl ?_
  refine v_aload_n C dX6_tell_142 rfl rfl ?_
  refine vm_get (v := .ref (ad 11)) C hM inX6_tell_X6 11 (by decide) kwX6_tell_35 rfl rfl dX6_tell_143 ?_
  refine v_aload_n C dX6_tell_146 rfl rfl ?_
  refine vm_get (v := .int (g 10)) C hM inX6_tell_X6 10 (by decide) kwX6_tell_94 rfl rfl dX6_tell_147 ?_
  refine v_tov (y := nI np) hnp ?_
  refine v_iload_n C dX6_tell_150 rfl rfl ?_
  refine vm_iast C hM hF 11 9 rfl (vp_in_nI hnp2 (by decide)) rfl dX6_tell_151 (fun zw hM hF => ?_)
  rw [nI_clamp (show np < 2 ^ 31 by omega)] at hM
  refine v_aload_n C dX6_tell_152 rfl rfl ?_
  refine vm_get (v := .ref (ad 12)) C hM inX6_tell_X6 12 (by decide) kwX6_tell_38 rfl rfl dX6_tell_153 ?_
  refine v_at (pc9 := 156) rfl ?_
  refine v_aload_n C dX6_tell_156 rfl rfl ?_
  refine vm_get (v := .int (g 10)) C hM inX6_tell_X6 10 (by decide) kwX6_tell_94 rfl rfl dX6_tell_157 ?_
  refine v_tov (y := nI np) hnp ?_
  refine v_aload_n C dX6_tell_160 rfl rfl ?_
  refine vm_get (v := .int (g 0)) C hM inX6_tell_X6 0 (by decide) kwX6_tell_65 rfl rfl dX6_tell_161 ?_
  refine vm_iast C hM hF 12 10 rfl (vp_in_nI hnp2 (by decide)) rfl dX6_tell_164 (fun zw hM hF => ?_)
  rw [nI_clamp (show np < 2 ^ 31 by omega)] at hM
  refine v_aload_n C dX6_tell_165 rfl rfl ?_
  refine vm_get (v := .ref (ad 13)) C hM inX6_tell_X6 13 (by decide) kwX6_tell_41 rfl rfl dX6_tell_166 ?_
  refine v_aload_n C dX6_tell_169 rfl rfl ?_
  refine vm_get (v := .int (g 10)) C hM inX6_tell_X6 10 (by decide) kwX6_tell_94 rfl rfl dX6_tell_170 ?_
  refine v_tov (y := nI np) hnp ?_
  refine v_aload_n C dX6_tell_173 rfl rfl ?_
  refine v_at (pc9 := 174) rfl ?_
  refine vm_get (v := .ref (ad 5)) C hM inX6_tell_X6 5 (by decide) kwX6_tell_20 rfl rfl dX6_tell_174 ?_
  refine v_iload_n C dX6_tell_177 rfl rfl ?_
  refine vm_iald (f := ar 5) C hM 4 rfl (vp_in_nI hj (by decide)) dX6_tell_178 ?_
  refine v_tov (congrArg (ar 5) (nI_clamp (show j < 2 ^ 31 by omega))) ?_
  refine v_if_eq (tgt := 187) C dX6_tell_179 (by decide) (fun c179 => ?_) (fun c179 => ?_)
  · refine v_iload_n C dX6_tell_187 rfl rfl ?_
    refine v_goto (tgt := 199) C dX6_tell_188 (by decide) ?_
    refine v_tov (y := tlR ar j y) (by unfold tlR; first | (rw [if_pos (Or.inl c179)]; done) | (rw [if_pos (Or.inr c184)]; done) | (rw [if_neg (fun h => h.elim c179 c184)]; done)) ?_
    refine vm_iast C hM hF 13 11 rfl (vp_in_nI hnp2 (by decide)) rfl dX6_tell_199 (fun zw hM hF => ?_)
    rw [nI_clamp (show np < 2 ^ 31 by omega)] at hM
    refine v_aload_n C dX6_tell_200 rfl rfl ?_
    refine v_dup C dX6_tell_201 rfl ?_
    refine vm_get (v := .int (g 10)) C hM inX6_tell_X6 10 (by decide) kwX6_tell_94 rfl rfl dX6_tell_202 ?_
    refine v_iconst (v := 1) C dX6_tell_205 (by decide) ?_
    refine v_iadd C dX6_tell_206 ?_
    refine v_tov (y := nI (np + 1)) (by rw [hnp]; exact nI_1 np) ?_
    refine vm_puti C hM hF inX6_tell_X6 10 (by decide) kwX6_tell_94 rfl rfl (by decide +kernel) rfl dX6_tell_207 (fun zw hM hF => ?_)
    refine v_at (pc9 := 210) rfl ?_
    refine v_aload_n C dX6_tell_210 rfl rfl ?_
    refine vm_get (v := .ref (ad 9)) C hM inX6_tell_X6 9 (by decide) kwX6_tell_32 rfl rfl dX6_tell_211 ?_
    refine v_iload_n C dX6_tell_214 rfl rfl ?_
    refine v_dup2_11 C dX6_tell_215 rfl rfl ?_
    refine vm_iald (f := ar 9) C hM 8 rfl (vp_in_nI hj (by decide)) dX6_tell_216 ?_
    refine v_tov (congrArg (ar 9) (nI_clamp (show j < 2 ^ 31 by omega))) ?_
    refine v_iload C dX6_tell_217 rfl ?_
    refine v_if_eq (tgt := 226) C dX6_tell_219 (by decide) (fun c219 => ?_) (fun c219 => ?_)
    · refine v_iconst (v := 0) C dX6_tell_226 (by decide) ?_
      refine v_tov (y := b01 (0 < (ar 5 j).toInt ∧ y.toInt < (ar 6 j).toInt)) (by first | exact (b01_f (b01_0 c219)).symm | exact (b01_t (b01_n c219)).symm) ?_
      refine v_iadd C dX6_tell_227 ?_
      refine vm_iast C hM hF 9 8 rfl (vp_in_nI hj (by decide)) rfl dX6_tell_228 (fun zw hM hF => ?_)
      rw [nI_clamp (show j < 2 ^ 31 by omega)] at hM
      refine v_aload_n C dX6_tell_229 rfl rfl ?_
      refine vm_get (v := .ref (ad 5)) C hM inX6_tell_X6 5 (by decide) kwX6_tell_20 rfl rfl dX6_tell_230 ?_
      refine v_iload_n C dX6_tell_233 rfl rfl ?_
      refine v_dup2_11 C dX6_tell_234 rfl rfl ?_
      refine vm_iald (f := ar 5) C hM 4 rfl (vp_in_nI hj (by decide)) dX6_tell_235 ?_
      refine v_tov (congrArg (ar 5) (nI_clamp (show j < 2 ^ 31 by omega))) ?_
      refine v_iconst (v := 1) C dX6_tell_236 (by decide) ?_
      refine v_at (pc9 := 237) rfl ?_
      refine v_iadd C dX6_tell_237 ?_
      refine vm_iast C hM hF 5 4 rfl (vp_in_nI hj (by decide)) rfl dX6_tell_238 (fun zw hM hF => ?_)
      rw [nI_clamp (show j < 2 ^ 31 by omega)] at hM
      refine v_aload_n C dX6_tell_239 rfl rfl ?_
      refine vm_get (v := .ref (ad 6)) C hM inX6_tell_X6 6 (by decide) kwX6_tell_23 rfl rfl dX6_tell_240 ?_
      refine v_iload_n C dX6_tell_243 rfl rfl ?_
      refine v_iload_n C dX6_tell_244 rfl rfl ?_
      refine vm_iast C hM hF 6 5 rfl (vp_in_nI hj (by decide)) rfl dX6_tell_245 (fun zw hM hF => ?_)
      rw [nI_clamp (show j < 2 ^ 31 by omega)] at hM
      refine v_aload_n C dX6_tell_246 rfl rfl ?_
      refine vm_get (v := .ref (ad 8)) C hM inX6_tell_X6 8 (by decide) kwX6_tell_29 rfl rfl dX6_tell_247 ?_
      refine v_iload_n C dX6_tell_250 rfl rfl ?_
      refine v_at (pc9 := 251) rfl ?_
      refine v_aload_n C dX6_tell_251 rfl rfl ?_
      refine vm_get (v := .int (g 0)) C hM inX6_tell_X6 0 (by decide) kwX6_tell_65 rfl rfl dX6_tell_252 ?_
      refine vm_iast C hM hF 8 7 rfl (vp_in_nI hj (by decide)) rfl dX6_tell_255 (fun zw hM hF => ?_)
      rw [nI_clamp (show j < 2 ^ 31 by omega)] at hM
      refine v_iload_n C dX6_tell_256 rfl rfl ?_
      exact v_iret C hr dX6_tell_257 (Nat.le_refl _) (Nat.le_refl _) ⟨_, rfl, hP zw hM hF⟩
    · refine v_iconst (v := 1) C dX6_tell_222 (by decide) ?_
      refine v_goto (tgt := 227) C dX6_tell_223 (by decide) ?_
      refine v_tov (y := b01 (0 < (ar 5 j).toInt ∧ y.toInt < (ar 6 j).toInt)) (by first | exact (b01_f (b01_0 c219)).symm | exact (b01_t (b01_n c219)).symm) ?_
      refine v_iadd C dX6_tell_227 ?_
      refine vm_iast C hM hF 9 8 rfl (vp_in_nI hj (by decide)) rfl dX6_tell_228 (fun zw hM hF => ?_)
      rw [nI_clamp (show j < 2 ^ 31 by omega)] at hM
      refine v_aload_n C dX6_tell_229 rfl rfl ?_
      refine vm_get (v := .ref (ad 5)) C hM inX6_tell_X6 5 (by decide) kwX6_tell_20 rfl rfl dX6_tell_230 ?_
      refine v_iload_n C dX6_tell_233 rfl rfl ?_
      refine v_dup2_11 C dX6_tell_234 rfl rfl ?_
      refine vm_iald (f := ar 5) C hM 4 rfl (vp_in_nI hj (by decide)) dX6_tell_235 ?_
      refine v_at (pc9 := 236) rfl ?_
      refine v_tov (congrArg (ar 5) (nI_clamp (show j < 2 ^ 31 by omega))) ?_
      refine v_iconst (v := 1) C dX6_tell_236 (by decide) ?_
      refine v_iadd C dX6_tell_237 ?_
      refine vm_iast C hM hF 5 4 rfl (vp_in_nI hj (by decide)) rfl dX6_tell_238 (fun zw hM hF => ?_)
      rw [nI_clamp (show j < 2 ^ 31 by omega)] at hM
      refine v_aload_n C dX6_tell_239 rfl rfl ?_
      refine vm_get (v := .ref (ad 6)) C hM inX6_tell_X6 6 (by decide) kwX6_tell_23 rfl rfl dX6_tell_240 ?_
      refine v_iload_n C dX6_tell_243 rfl rfl ?_
      refine v_iload_n C dX6_tell_244 rfl rfl ?_
      refine vm_iast C hM hF 6 5 rfl (vp_in_nI hj (by decide)) rfl dX6_tell_245 (fun zw hM hF => ?_)
      rw [nI_clamp (show j < 2 ^ 31 by omega)] at hM
      refine v_aload_n C dX6_tell_246 rfl rfl ?_
      refine vm_get (v := .ref (ad 8)) C hM inX6_tell_X6 8 (by decide) kwX6_tell_29 rfl rfl dX6_tell_247 ?_
      refine v_at (pc9 := 250) rfl ?_
      refine v_iload_n C dX6_tell_250 rfl rfl ?_
      refine v_aload_n C dX6_tell_251 rfl rfl ?_
      refine vm_get (v := .int (g 0)) C hM inX6_tell_X6 0 (by decide) kwX6_tell_65 rfl rfl dX6_tell_252 ?_
      refine vm_iast C hM hF 8 7 rfl (vp_in_nI hj (by decide)) rfl dX6_tell_255 (fun zw hM hF => ?_)
      rw [nI_clamp (show j < 2 ^ 31 by omega)] at hM
      refine v_iload_n C dX6_tell_256 rfl rfl ?_
      exact v_iret C hr dX6_tell_257 (Nat.le_refl _) (Nat.le_refl _) ⟨_, rfl, hP zw hM hF⟩
  · refine v_iload C dX6_tell_182 rfl ?_
    refine v_if_eq (tgt := 191) C dX6_tell_184 (by decide) (fun c184 => ?_) (fun c184 => ?_)
    · have c184 := b01_0 c184
      refine v_iload_n C dX6_tell_191 rfl rfl ?_
      refine v_aload_n C dX6_tell_192 rfl rfl ?_
      refine vm_get (v := .ref (ad 6)) C hM inX6_tell_X6 6 (by decide) kwX6_tell_23 rfl rfl dX6_tell_193 ?_
      refine v_iload_n C dX6_tell_196 rfl rfl ?_
      refine vm_iald (f := ar 6) C hM 5 rfl (vp_in_nI hj (by decide)) dX6_tell_197 ?_
      refine v_tov (congrArg (ar 6) (nI_clamp (show j < 2 ^ 31 by omega))) ?_
      refine v_isub C dX6_tell_198 ?_
      refine v_tov (y := tlR ar j y) (by unfold tlR; first | (rw [if_pos (Or.inl c179)]; done) | (rw [if_pos (Or.inr c184)]; done) | (rw [if_neg (fun h => h.elim c179 c184)]; done)) ?_
      refine vm_iast C hM hF 13 11 rfl (vp_in_nI hnp2 (by decide)) rfl dX6_tell_199 (fun zw hM hF => ?_)
      rw [nI_clamp (show np < 2 ^ 31 by omega)] at hM
      refine v_aload_n C dX6_tell_200 rfl rfl ?_
      refine v_dup C dX6_tell_201 rfl ?_
      refine v_at (pc9 := 202) rfl ?_
      refine vm_get (v := .int (g 10)) C hM inX6_tell_X6 10 (by decide) kwX6_tell_94 rfl rfl dX6_tell_202 ?_
      refine v_iconst (v := 1) C dX6_tell_205 (by decide) ?_
      refine v_iadd C dX6_tell_206 ?_
      refine v_tov (y := nI (np + 1)) (by rw [hnp]; exact nI_1 np) ?_
      refine vm_puti C hM hF inX6_tell_X6 10 (by decide) kwX6_tell_94 rfl rfl (by decide +kernel) rfl dX6_tell_207 (fun zw hM hF => ?_)
      refine v_aload_n C dX6_tell_210 rfl rfl ?_
      refine vm_get (v := .ref (ad 9)) C hM inX6_tell_X6 9 (by decide) kwX6_tell_32 rfl rfl dX6_tell_211 ?_
      refine v_iload_n C dX6_tell_214 rfl rfl ?_
      refine v_dup2_11 C dX6_tell_215 rfl rfl ?_
      refine vm_iald (f := ar 9) C hM 8 rfl (vp_in_nI hj (by decide)) dX6_tell_216 ?_
      refine v_tov (congrArg (ar 9) (nI_clamp (show j < 2 ^ 31 by omega))) ?_
      refine v_iload C dX6_tell_217 rfl ?_
      refine v_at (pc9 := 219) rfl ?_
      refine v_if_eq (tgt := 226) C dX6_tell_219 (by decide) (fun c219 => ?_) (fun c219 => ?_)
      · refine v_iconst (v := 0) C dX6_tell_226 (by decide) ?_
        refine v_tov (y := b01 (0 < (ar 5 j).toInt ∧ y.toInt < (ar 6 j).toInt)) (by first | exact (b01_f (b01_0 c219)).symm | exact (b01_t (b01_n c219)).symm) ?_
        refine v_iadd C dX6_tell_227 ?_
        refine vm_iast C hM hF 9 8 rfl (vp_in_nI hj (by decide)) rfl dX6_tell_228 (fun zw hM hF => ?_)
        rw [nI_clamp (show j < 2 ^ 31 by omega)] at hM
        refine v_aload_n C dX6_tell_229 rfl rfl ?_
        refine vm_get (v := .ref (ad 5)) C hM inX6_tell_X6 5 (by decide) kwX6_tell_20 rfl rfl dX6_tell_230 ?_
        refine v_iload_n C dX6_tell_233 rfl rfl ?_
        refine v_dup2_11 C dX6_tell_234 rfl rfl ?_
        refine vm_iald (f := ar 5) C hM 4 rfl (vp_in_nI hj (by decide)) dX6_tell_235 ?_
        refine v_tov (congrArg (ar 5) (nI_clamp (show j < 2 ^ 31 by omega))) ?_
        refine v_iconst (v := 1) C dX6_tell_236 (by decide) ?_
        refine v_at (pc9 := 237) rfl ?_
        refine v_iadd C dX6_tell_237 ?_
        refine vm_iast C hM hF 5 4 rfl (vp_in_nI hj (by decide)) rfl dX6_tell_238 (fun zw hM hF => ?_)
        rw [nI_clamp (show j < 2 ^ 31 by omega)] at hM
        refine v_aload_n C dX6_tell_239 rfl rfl ?_
        refine vm_get (v := .ref (ad 6)) C hM inX6_tell_X6 6 (by decide) kwX6_tell_23 rfl rfl dX6_tell_240 ?_
        refine v_iload_n C dX6_tell_243 rfl rfl ?_
        refine v_iload_n C dX6_tell_244 rfl rfl ?_
        refine vm_iast C hM hF 6 5 rfl (vp_in_nI hj (by decide)) rfl dX6_tell_245 (fun zw hM hF => ?_)
        rw [nI_clamp (show j < 2 ^ 31 by omega)] at hM
        refine v_aload_n C dX6_tell_246 rfl rfl ?_
        refine vm_get (v := .ref (ad 8)) C hM inX6_tell_X6 8 (by decide) kwX6_tell_29 rfl rfl dX6_tell_247 ?_
        refine v_iload_n C dX6_tell_250 rfl rfl ?_
        refine v_at (pc9 := 251) rfl ?_
        refine v_aload_n C dX6_tell_251 rfl rfl ?_
        refine vm_get (v := .int (g 0)) C hM inX6_tell_X6 0 (by decide) kwX6_tell_65 rfl rfl dX6_tell_252 ?_
        refine vm_iast C hM hF 8 7 rfl (vp_in_nI hj (by decide)) rfl dX6_tell_255 (fun zw hM hF => ?_)
        rw [nI_clamp (show j < 2 ^ 31 by omega)] at hM
        refine v_iload_n C dX6_tell_256 rfl rfl ?_
        exact v_iret C hr dX6_tell_257 (Nat.le_refl _) (Nat.le_refl _) ⟨_, rfl, hP zw hM hF⟩
      · refine v_iconst (v := 1) C dX6_tell_222 (by decide) ?_
        refine v_goto (tgt := 227) C dX6_tell_223 (by decide) ?_
        refine v_tov (y := b01 (0 < (ar 5 j).toInt ∧ y.toInt < (ar 6 j).toInt)) (by first | exact (b01_f (b01_0 c219)).symm | exact (b01_t (b01_n c219)).symm) ?_
        refine v_iadd C dX6_tell_227 ?_
        refine vm_iast C hM hF 9 8 rfl (vp_in_nI hj (by decide)) rfl dX6_tell_228 (fun zw hM hF => ?_)
        rw [nI_clamp (show j < 2 ^ 31 by omega)] at hM
        refine v_aload_n C dX6_tell_229 rfl rfl ?_
        refine vm_get (v := .ref (ad 5)) C hM inX6_tell_X6 5 (by decide) kwX6_tell_20 rfl rfl dX6_tell_230 ?_
        refine v_iload_n C dX6_tell_233 rfl rfl ?_
        refine v_dup2_11 C dX6_tell_234 rfl rfl ?_
        refine vm_iald (f := ar 5) C hM 4 rfl (vp_in_nI hj (by decide)) dX6_tell_235 ?_
        refine v_at (pc9 := 236) rfl ?_
        refine v_tov (congrArg (ar 5) (nI_clamp (show j < 2 ^ 31 by omega))) ?_
        refine v_iconst (v := 1) C dX6_tell_236 (by decide) ?_
        refine v_iadd C dX6_tell_237 ?_
        refine vm_iast C hM hF 5 4 rfl (vp_in_nI hj (by decide)) rfl dX6_tell_238 (fun zw hM hF => ?_)
        rw [nI_clamp (show j < 2 ^ 31 by omega)] at hM
        refine v_aload_n C dX6_tell_239 rfl rfl ?_
        refine vm_get (v := .ref (ad 6)) C hM inX6_tell_X6 6 (by decide) kwX6_tell_23 rfl rfl dX6_tell_240 ?_
        refine v_iload_n C dX6_tell_243 rfl rfl ?_
        refine v_iload_n C dX6_tell_244 rfl rfl ?_
        refine vm_iast C hM hF 6 5 rfl (vp_in_nI hj (by decide)) rfl dX6_tell_245 (fun zw hM hF => ?_)
        rw [nI_clamp (show j < 2 ^ 31 by omega)] at hM
        refine v_aload_n C dX6_tell_246 rfl rfl ?_
        refine vm_get (v := .ref (ad 8)) C hM inX6_tell_X6 8 (by decide) kwX6_tell_29 rfl rfl dX6_tell_247 ?_
        refine v_at (pc9 := 250) rfl ?_
        refine v_iload_n C dX6_tell_250 rfl rfl ?_
        refine v_aload_n C dX6_tell_251 rfl rfl ?_
        refine vm_get (v := .int (g 0)) C hM inX6_tell_X6 0 (by decide) kwX6_tell_65 rfl rfl dX6_tell_252 ?_
        refine vm_iast C hM hF 8 7 rfl (vp_in_nI hj (by decide)) rfl dX6_tell_255 (fun zw hM hF => ?_)
        rw [nI_clamp (show j < 2 ^ 31 by omega)] at hM
        refine v_iload_n C dX6_tell_256 rfl rfl ?_
        exact v_iret C hr dX6_tell_257 (Nat.le_refl _) (Nat.le_refl _) ⟨_, rfl, hP zw hM hF⟩
    · have c184 := b01_n c184
      refine v_iload_n C dX6_tell_187 rfl rfl ?_
      refine v_goto (tgt := 199) C dX6_tell_188 (by decide) ?_
      refine v_tov (y := tlR ar j y) (by unfold tlR; first | (rw [if_pos (Or.inl c179)]; done) | (rw [if_pos (Or.inr c184)]; done) | (rw [if_neg (fun h => h.elim c179 c184)]; done)) ?_
      refine vm_iast C hM hF 13 11 rfl (vp_in_nI hnp2 (by decide)) rfl dX6_tell_199 (fun zw hM hF => ?_)
      rw [nI_clamp (show np < 2 ^ 31 by omega)] at hM
      refine v_aload_n C dX6_tell_200 rfl rfl ?_
      refine v_dup C dX6_tell_201 rfl ?_
      refine vm_get (v := .int (g 10)) C hM inX6_tell_X6 10 (by decide) kwX6_tell_94 rfl rfl dX6_tell_202 ?_
      refine v_iconst (v := 1) C dX6_tell_205 (by decide) ?_
      refine v_iadd C dX6_tell_206 ?_
      refine v_tov (y := nI (np + 1)) (by rw [hnp]; exact nI_1 np) ?_
      refine vm_puti C hM hF inX6_tell_X6 10 (by decide) kwX6_tell_94 rfl rfl (by decide +kernel) rfl dX6_tell_207 (fun zw hM hF => ?_)
      refine v_at (pc9 := 210) rfl ?_
      refine v_aload_n C dX6_tell_210 rfl rfl ?_
      refine vm_get (v := .ref (ad 9)) C hM inX6_tell_X6 9 (by decide) kwX6_tell_32 rfl rfl dX6_tell_211 ?_
      refine v_iload_n C dX6_tell_214 rfl rfl ?_
      refine v_dup2_11 C dX6_tell_215 rfl rfl ?_
      refine vm_iald (f := ar 9) C hM 8 rfl (vp_in_nI hj (by decide)) dX6_tell_216 ?_
      refine v_tov (congrArg (ar 9) (nI_clamp (show j < 2 ^ 31 by omega))) ?_
      refine v_iload C dX6_tell_217 rfl ?_
      refine v_if_eq (tgt := 226) C dX6_tell_219 (by decide) (fun c219 => ?_) (fun c219 => ?_)
      · refine v_iconst (v := 0) C dX6_tell_226 (by decide) ?_
        refine v_tov (y := b01 (0 < (ar 5 j).toInt ∧ y.toInt < (ar 6 j).toInt)) (by first | exact (b01_f (b01_0 c219)).symm | exact (b01_t (b01_n c219)).symm) ?_
        refine v_iadd C dX6_tell_227 ?_
        refine vm_iast C hM hF 9 8 rfl (vp_in_nI hj (by decide)) rfl dX6_tell_228 (fun zw hM hF => ?_)
        rw [nI_clamp (show j < 2 ^ 31 by omega)] at hM
        refine v_aload_n C dX6_tell_229 rfl rfl ?_
        refine vm_get (v := .ref (ad 5)) C hM inX6_tell_X6 5 (by decide) kwX6_tell_20 rfl rfl dX6_tell_230 ?_
        refine v_iload_n C dX6_tell_233 rfl rfl ?_
        refine v_dup2_11 C dX6_tell_234 rfl rfl ?_
        refine vm_iald (f := ar 5) C hM 4 rfl (vp_in_nI hj (by decide)) dX6_tell_235 ?_
        refine v_tov (congrArg (ar 5) (nI_clamp (show j < 2 ^ 31 by omega))) ?_
        refine v_iconst (v := 1) C dX6_tell_236 (by decide) ?_
        refine v_at (pc9 := 237) rfl ?_
        refine v_iadd C dX6_tell_237 ?_
        refine vm_iast C hM hF 5 4 rfl (vp_in_nI hj (by decide)) rfl dX6_tell_238 (fun zw hM hF => ?_)
        rw [nI_clamp (show j < 2 ^ 31 by omega)] at hM
        refine v_aload_n C dX6_tell_239 rfl rfl ?_
        refine vm_get (v := .ref (ad 6)) C hM inX6_tell_X6 6 (by decide) kwX6_tell_23 rfl rfl dX6_tell_240 ?_
        refine v_iload_n C dX6_tell_243 rfl rfl ?_
        refine v_iload_n C dX6_tell_244 rfl rfl ?_
        refine vm_iast C hM hF 6 5 rfl (vp_in_nI hj (by decide)) rfl dX6_tell_245 (fun zw hM hF => ?_)
        rw [nI_clamp (show j < 2 ^ 31 by omega)] at hM
        refine v_aload_n C dX6_tell_246 rfl rfl ?_
        refine vm_get (v := .ref (ad 8)) C hM inX6_tell_X6 8 (by decide) kwX6_tell_29 rfl rfl dX6_tell_247 ?_
        refine v_iload_n C dX6_tell_250 rfl rfl ?_
        refine v_at (pc9 := 251) rfl ?_
        refine v_aload_n C dX6_tell_251 rfl rfl ?_
        refine vm_get (v := .int (g 0)) C hM inX6_tell_X6 0 (by decide) kwX6_tell_65 rfl rfl dX6_tell_252 ?_
        refine vm_iast C hM hF 8 7 rfl (vp_in_nI hj (by decide)) rfl dX6_tell_255 (fun zw hM hF => ?_)
        rw [nI_clamp (show j < 2 ^ 31 by omega)] at hM
        refine v_iload_n C dX6_tell_256 rfl rfl ?_
        exact v_iret C hr dX6_tell_257 (Nat.le_refl _) (Nat.le_refl _) ⟨_, rfl, hP zw hM hF⟩
      · refine v_iconst (v := 1) C dX6_tell_222 (by decide) ?_
        refine v_goto (tgt := 227) C dX6_tell_223 (by decide) ?_
        refine v_tov (y := b01 (0 < (ar 5 j).toInt ∧ y.toInt < (ar 6 j).toInt)) (by first | exact (b01_f (b01_0 c219)).symm | exact (b01_t (b01_n c219)).symm) ?_
        refine v_iadd C dX6_tell_227 ?_
        refine vm_iast C hM hF 9 8 rfl (vp_in_nI hj (by decide)) rfl dX6_tell_228 (fun zw hM hF => ?_)
        rw [nI_clamp (show j < 2 ^ 31 by omega)] at hM
        refine v_aload_n C dX6_tell_229 rfl rfl ?_
        refine vm_get (v := .ref (ad 5)) C hM inX6_tell_X6 5 (by decide) kwX6_tell_20 rfl rfl dX6_tell_230 ?_
        refine v_iload_n C dX6_tell_233 rfl rfl ?_
        refine v_dup2_11 C dX6_tell_234 rfl rfl ?_
        refine vm_iald (f := ar 5) C hM 4 rfl (vp_in_nI hj (by decide)) dX6_tell_235 ?_
        refine v_at (pc9 := 236) rfl ?_
        refine v_tov (congrArg (ar 5) (nI_clamp (show j < 2 ^ 31 by omega))) ?_
        refine v_iconst (v := 1) C dX6_tell_236 (by decide) ?_
        refine v_iadd C dX6_tell_237 ?_
        refine vm_iast C hM hF 5 4 rfl (vp_in_nI hj (by decide)) rfl dX6_tell_238 (fun zw hM hF => ?_)
        rw [nI_clamp (show j < 2 ^ 31 by omega)] at hM
        refine v_aload_n C dX6_tell_239 rfl rfl ?_
        refine vm_get (v := .ref (ad 6)) C hM inX6_tell_X6 6 (by decide) kwX6_tell_23 rfl rfl dX6_tell_240 ?_
        refine v_iload_n C dX6_tell_243 rfl rfl ?_
        refine v_iload_n C dX6_tell_244 rfl rfl ?_
        refine vm_iast C hM hF 6 5 rfl (vp_in_nI hj (by decide)) rfl dX6_tell_245 (fun zw hM hF => ?_)
        rw [nI_clamp (show j < 2 ^ 31 by omega)] at hM
        refine v_aload_n C dX6_tell_246 rfl rfl ?_
        refine vm_get (v := .ref (ad 8)) C hM inX6_tell_X6 8 (by decide) kwX6_tell_29 rfl rfl dX6_tell_247 ?_
        refine v_at (pc9 := 250) rfl ?_
        refine v_iload_n C dX6_tell_250 rfl rfl ?_
        refine v_aload_n C dX6_tell_251 rfl rfl ?_
        refine vm_get (v := .int (g 0)) C hM inX6_tell_X6 0 (by decide) kwX6_tell_65 rfl rfl dX6_tell_252 ?_
        refine vm_iast C hM hF 8 7 rfl (vp_in_nI hj (by decide)) rfl dX6_tell_255 (fun zw hM hF => ?_)
        rw [nI_clamp (show j < 2 ^ 31 by omega)] at hM
        refine v_iload_n C dX6_tell_256 rfl rfl ?_
        exact v_iret C hr dX6_tell_257 (Nat.le_refl _) (Nat.le_refl _) ⟨_, rfl, hP zw hM hF⟩
set_option maxHeartbeats 4000000 in
set_option maxRecDepth 100000 in
theorem tl0_X6_tell {p : Program} {l : Launch} {e : Env} {R : Room} {s : State} {m : MethodId} {args : Array Value} {below : List Frame} {meth : Method} {c : Code} {E : gE} {zw : va_W} {w0 : va_W} (C : gC p s m args meth c E cX6_tell 5 wsX6_tell yX6_tell.cls) (hr : meth.sig.returnType = some .int) {ad : Nat → Nat} {g : Nat → Int32} {ar : Nat → Nat → Int32} {np j : Nat} (hnp : g 10 = nI np) (hnp2 : np < 2000) (hj : j < 120) {x y : Int32} {post : Int32 → va_W → Prop} (hM : mAt zw (mcl E ad g ar)) (hF : mFr w0 zw) (hP : ∀ zw : va_W, mAt zw (mcl E ad (upd g 10 (nI (np + 1))) (tlA (g 0) ar j np y)) → mFr w0 zw → post (nI j) zw) : V p l e R s m args below meth c E 5 zw 0 0 (MQ below (gQ E (fun v w1 => ∃ r : Int32, v = some (.int r) ∧ post r w1)) args s 0 0 (gA E)) 116 [(0, .ref (ad 0)), (1, .int x), (2, .int y), (3, .int (nI j))] [] := by
  refine v_aload_n C dX6_tell_116 rfl rfl ?_
  refine vm_get (v := .ref (ad 5)) C hM inX6_tell_X6 5 (by decide) kwX6_tell_20 rfl rfl dX6_tell_117 ?_
  refine v_iload_n C dX6_tell_120 rfl rfl ?_
  refine vm_iald (f := ar 5) C hM 4 rfl (vp_in_nI hj (by decide)) dX6_tell_121 ?_
  refine v_tov (congrArg (ar 5) (nI_clamp (show j < 2 ^ 31 by omega))) ?_
  refine v_if_le (tgt := 139) C dX6_tell_122 (by decide) (fun c122 => ?_) (fun c122 => ?_)
  · refine v_iconst (v := 0) C dX6_tell_139 (by decide) ?_
    refine v_tov (y := b01 (0 < (ar 5 j).toInt ∧ y.toInt < (ar 6 j).toInt)) (by first | exact (b01_f (fun h => absurd h.1 (by rw [fa_le, ti_0] at c122; omega))).symm | exact (b01_f (fun h => absurd h.2 (by rw [fa_le] at c132; omega))).symm | exact (b01_t (by rw [fa_le, ti_0] at c122; rw [fa_le] at c132; omega)).symm) ?_
    exact tl1_X6_tell C hr hnp hnp2 hj hM hF hP
  · refine v_iload_n C dX6_tell_125 rfl rfl ?_
    refine v_aload_n C dX6_tell_126 rfl rfl ?_
    refine vm_get (v := .ref (ad 6)) C hM inX6_tell_X6 6 (by decide) kwX6_tell_23 rfl rfl dX6_tell_127 ?_
    refine v_iload_n C dX6_tell_130 rfl rfl ?_
    refine vm_iald (f := ar 6) C hM 5 rfl (vp_in_nI hj (by decide)) dX6_tell_131 ?_
    refine v_tov (congrArg (ar 6) (nI_clamp (show j < 2 ^ 31 by omega))) ?_
    refine v_icmp_ge (tgt := 139) C dX6_tell_132 (by decide) (fun c132 => ?_) (fun c132 => ?_)
    · refine v_iconst (v := 0) C dX6_tell_139 (by decide) ?_
      refine v_tov (y := b01 (0 < (ar 5 j).toInt ∧ y.toInt < (ar 6 j).toInt)) (by first | exact (b01_f (fun h => absurd h.1 (by rw [fa_le, ti_0] at c122; omega))).symm | exact (b01_f (fun h => absurd h.2 (by rw [fa_le] at c132; omega))).symm | exact (b01_t (by rw [fa_le, ti_0] at c122; rw [fa_le] at c132; omega)).symm) ?_
      exact tl1_X6_tell C hr hnp hnp2 hj hM hF hP
    · refine v_iconst (v := 1) C dX6_tell_135 (by decide) ?_
      refine v_goto (tgt := 140) C dX6_tell_136 (by decide) ?_
      refine v_tov (y := b01 (0 < (ar 5 j).toInt ∧ y.toInt < (ar 6 j).toInt)) (by first | exact (b01_f (fun h => absurd h.1 (by rw [fa_le, ti_0] at c122; omega))).symm | exact (b01_f (fun h => absurd h.2 (by rw [fa_le] at c132; omega))).symm | exact (b01_t (by rw [fa_le, ti_0] at c122; rw [fa_le] at c132; omega)).symm) ?_
      exact tl1_X6_tell C hr hnp hnp2 hj hM hF hP
/-- what tell does to the reference's numbers, and what it answers -/
def tellR (g : Nat → Int32) (ar : Nat → Nat → Int32) (ns np : Nat) (x y : Int32) (g1 : Nat → Int32) (ar1 : Nat → Nat → Int32) (r : Int32) : Prop :=
  (¬ ((0 ≤ x.toInt ∧ x.toInt ≤ 262143) ∧ 0 ≤ y.toInt ∧ y.toInt ≤ 1000000000) ∧ g1 = g ∧ ar1 = ar ∧ r = (-2)) ∨
  (((0 ≤ x.toInt ∧ x.toInt ≤ 262143) ∧ 0 ≤ y.toInt ∧ y.toInt ≤ 1000000000) ∧ ∃ j, j < ns ∧ ar 4 j = x ∧ (∀ q, q < j → ¬ ar 4 q = x) ∧ ((ar 8 j = g 0 ∧ g1 = g ∧ ar1 = ar ∧ r = (-3)) ∨ (¬ ar 8 j = g 0 ∧ np = 2000 ∧ g1 = g ∧ ar1 = ar ∧ r = (-4)) ∨ (¬ ar 8 j = g 0 ∧ np < 2000 ∧ r = nI j ∧ g1 = upd g 10 (nI (np + 1)) ∧ ar1 = tlA (g 0) ar j np y))) ∨
  (((0 ≤ x.toInt ∧ x.toInt ≤ 262143) ∧ 0 ≤ y.toInt ∧ y.toInt ≤ 1000000000) ∧ (∀ q, q < ns → ¬ ar 4 q = x) ∧ (((ns = 120 ∨ np = 2000) ∧ g1 = g ∧ ar1 = ar ∧ r = (-4)) ∨ (ns < 120 ∧ np < 2000 ∧ r = nI ns ∧ g1 = upd (upd g 3 (nI (ns + 1))) 10 (nI (np + 1)) ∧ ar1 = tlA (g 0) (va_up (va_up ar 4 (upd (ar 4) ns x)) 7 (upd (ar 7) ns (g 0))) ns np y)))
theorem kwX6_tell_c88 : Cond.constantLong RX6 88 (1000000000) ∈ wsX6_tell := by decide +kernel
theorem kwX6_tell_81 : Cond.fieldLink RX6 81 "SeriesMarksModel" "series" "I" ∈ wsX6_tell := by decide +kernel
theorem kwX6_tell_17 : Cond.fieldLink RX6 17 "SeriesMarksModel" "name" "[I" ∈ wsX6_tell := by decide +kernel
theorem kwX6_tell_26 : Cond.fieldLink RX6 26 "SeriesMarksModel" "firstTick" "[I" ∈ wsX6_tell := by decide +kernel
set_option maxHeartbeats 4000000 in
set_option maxRecDepth 100000 in
theorem c_X6_tell (l : Launch) (E : gE) (zw : va_W) {ad : Nat → Nat} {g : Nat → Int32} {ar : Nat → Nat → Int32} (hM : mAt zw (mcl E ad g ar)) {tk ns np na : Nat} (hI : MI g ar tk ns np na) (x y : Int32) : CtI l yX6_tell wsX6_tell ({ frames := 2, cells := 0, slots := 0, locals := 45 }) E [.ref (ad 0), .int x, .int y] zw (fun r w1 => ∃ (g1 : Nat → Int32) (ar1 : Nat → Nat → Int32), mAt w1 (mcl E ad g1 ar1) ∧ mFr zw w1 ∧ tellR g ar ns np x y g1 ar1 r) 0 0 := by
  refine Ct.of (cc := cX6_tell) (nL := 5) (ret := (some .int)) (by decide) rfl (Nat.le_of_ble_eq_true rfl) ?_
  intro p e s m args below meth c C hr hnm
  refine v_eqlv (lv9 := [(0, .ref (ad 0)), (1, .int x), (2, .int y)]) rfl ?_
  obtain ⟨w0, hw0⟩ : ∃ w0 : va_W, w0 = zw := ⟨_, rfl⟩
  have hF : mFr w0 zw := by rw [hw0]; exact mFr.rf zw
  refine v_iload_n C dX6_tell_0 rfl rfl ?_
  refine v_callSi C (c_X6_isName l E zw _) (va_cwS 1 C.1.2.2.2.2 gX6_tell_X6_isName rfl rfl rfl (by decide +kernel) ⟨by decide, by decide⟩) rfl rfl (Nat.le_of_ble_eq_true rfl) dX6_tell_1 ⟨Nat.le_of_ble_eq_true rfl, Nat.le_of_ble_eq_true rfl⟩ (fun r w1 hp => ?_)
  obtain ⟨rfl, rfl⟩ := hp
  refine v_if_eq (tgt := 19) C dX6_tell_4 (by decide) (fun c4 => ?_) (fun c4 => ?_)
  · have c4 := b01_0 c4
    refine v_bipush (v := (-2)) C dX6_tell_19 (by decide) ?_
    exact v_iret C hr dX6_tell_21 (Nat.le_refl _) (Nat.le_refl _) ⟨_, rfl, ⟨g, ar, hM, hw0 ▸ hF, Or.inl ⟨fun h => by first | exact c4 h.1 | exact c16 h.2, rfl, rfl, rfl⟩⟩⟩
  · have c4 := b01_n c4
    refine v_iload_n C dX6_tell_7 rfl rfl ?_
    refine v_i2l C dX6_tell_8 rfl ?_
    refine v_lconst (v := 0) C dX6_tell_9 (by decide) ?_
    refine v_ldc2 C kwX6_tell_c88 dX6_tell_10 ?_
    refine v_callSi C (c_X6_in l E zw _ _ _) (va_cwS 3 C.1.2.2.2.2 gX6_tell_X6_in rfl rfl rfl (by decide +kernel) ⟨by decide, by decide⟩) rfl rfl (Nat.le_of_ble_eq_true rfl) dX6_tell_13 ⟨Nat.le_of_ble_eq_true rfl, Nat.le_of_ble_eq_true rfl⟩ (fun r w1 hp => ?_)
    obtain ⟨rfl, rfl⟩ := hp
    refine v_if_ne (tgt := 22) C dX6_tell_16 (by decide) (fun c16 => ?_) (fun c16 => ?_)
    · have c16 := b01_n c16
      simp only [t64, tl_0, tl_g] at c16
      refine v_aload_n C dX6_tell_22 rfl rfl ?_
      refine v_iload_n C dX6_tell_23 rfl rfl ?_
      refine v_callVi C (c_X6_place l E zw hM hI _) (cwV 1 C.1.2.2.2.2 gX6_tell_X6_place rfl rfl rfl (by decide +kernel) ⟨by decide, by decide⟩) 12 7 (hM 0 _ rfl) rfl rfl rfl (Nat.le_of_ble_eq_true rfl) dX6_tell_24 ⟨Nat.le_of_ble_eq_true rfl, Nat.le_of_ble_eq_true rfl⟩ (fun r w1 hp => ?_)
      obtain ⟨rfl, hr9⟩ := hp
      rw [hr9]
      have hs9 := hI.ser.2
      have hp9 := hI.sam
      rcases spl_spec (ar 4) x ns with ⟨j, hj, hj1, hj2, e9⟩ | ⟨hno, e9⟩
      · rw [e9]
        refine v_istore_n C dX6_tell_27 rfl (by decide) rfl ?_
        refine v_iload_n C dX6_tell_28 rfl rfl ?_
        refine v_bipush (v := (-9)) C dX6_tell_29 (by decide) ?_
        refine v_icmp_eq (tgt := 50) C dX6_tell_31 (by decide) (fun c31 => absurd c31 (nI_n9 (show j < 2 ^ 31 by omega))) (fun c31 => ?_)
        refine v_aload_n C dX6_tell_34 rfl rfl ?_
        refine vm_get (v := .ref (ad 8)) C hM inX6_tell_X6 8 (by decide) kwX6_tell_29 rfl rfl dX6_tell_35 ?_
        refine v_iload_n C dX6_tell_38 rfl rfl ?_
        refine vm_iald (f := ar 8) C hM 7 rfl (vp_in_nI (by omega) (by decide)) dX6_tell_39 ?_
        refine v_tov (congrArg (ar 8) (nI_clamp (show j < 2 ^ 31 by omega))) ?_
        refine v_aload_n C dX6_tell_40 rfl rfl ?_
        refine v_at (pc9 := 41) rfl ?_
        refine vm_get (v := .int (g 0)) C hM inX6_tell_X6 0 (by decide) kwX6_tell_65 rfl rfl dX6_tell_41 ?_
        refine v_icmp_ne (tgt := 50) C dX6_tell_44 (by decide) (fun c44 => ?_) (fun c44 => ?_)
        · refine v_iload_n C dX6_tell_50 rfl rfl ?_
          refine v_bipush (v := (-9)) C dX6_tell_51 (by decide) ?_
          refine v_icmp_ne (tgt := 65) C dX6_tell_53 (by decide) (fun c53 => ?_) (fun c53 => absurd c53 (nI_n9 (show j < 2 ^ 31 by omega)))
          refine v_aload_n C dX6_tell_65 rfl rfl ?_
          refine vm_get (v := .int (g 10)) C hM inX6_tell_X6 10 (by decide) kwX6_tell_94 rfl rfl dX6_tell_66 ?_
          refine v_sipush (v := 2000) C dX6_tell_69 (by decide) ?_
          refine v_icmp_ne (tgt := 78) C dX6_tell_72 (by decide) (fun c72 => ?_) (fun c72 => ?_)
          · have c72 : np < 2000 := by
              rcases Nat.lt_or_ge np 2000 with q | q
              · exact q
              · exact absurd (by rw [hI.2.2.1.1, show np = 2000 by omega]; rfl) c72
            refine v_iload_n C dX6_tell_78 rfl rfl ?_
            refine v_bipush (v := (-9)) C dX6_tell_79 (by decide) ?_
            refine v_icmp_ne (tgt := 116) C dX6_tell_81 (by decide) (fun c81 => ?_) (fun c81 => absurd c81 (nI_n9 (show j < 2 ^ 31 by omega)))
            exact tl0_X6_tell (w0 := w0) C hr hI.2.2.1.1 c72 (by omega) hM hF (fun zw hM hF => ⟨_, _, hM, hw0 ▸ hF, Or.inr (Or.inl ⟨⟨c4, c16⟩, j, hj, hj1, hj2, Or.inr (Or.inr ⟨c44, c72, rfl, rfl, rfl⟩)⟩)⟩)
          · have c72 : np = 2000 := by
              have h8 := congrArg Int32.toInt c72
              rw [hI.sam.1, ti_2000] at h8; omega
            refine v_bipush (v := (-4)) C dX6_tell_75 (by decide) ?_
            exact v_iret C hr dX6_tell_77 (Nat.le_refl _) (Nat.le_refl _) ⟨_, rfl, ⟨g, ar, hM, hw0 ▸ hF, Or.inr (Or.inl ⟨⟨c4, c16⟩, j, hj, hj1, hj2, Or.inr (Or.inl ⟨c44, c72, rfl, rfl, rfl⟩)⟩)⟩⟩
        · refine v_bipush (v := (-3)) C dX6_tell_47 (by decide) ?_
          exact v_iret C hr dX6_tell_49 (Nat.le_refl _) (Nat.le_refl _) ⟨_, rfl, ⟨g, ar, hM, hw0 ▸ hF, Or.inr (Or.inl ⟨⟨c4, c16⟩, j, hj, hj1, hj2, Or.inl ⟨c44, rfl, rfl, rfl⟩⟩)⟩⟩
      · rw [e9]
        refine v_istore_n C dX6_tell_27 rfl (by decide) rfl ?_
        refine v_iload_n C dX6_tell_28 rfl rfl ?_
        refine v_bipush (v := (-9)) C dX6_tell_29 (by decide) ?_
        refine v_icmp_eq (tgt := 50) C dX6_tell_31 (by decide) (fun c31 => ?_) (fun c31 => absurd rfl c31)
        refine v_iload_n C dX6_tell_50 rfl rfl ?_
        refine v_bipush (v := (-9)) C dX6_tell_51 (by decide) ?_
        refine v_icmp_ne (tgt := 65) C dX6_tell_53 (by decide) (fun c53 => absurd c53 (fun h => h rfl)) (fun c53 => ?_)
        refine v_aload_n C dX6_tell_56 rfl rfl ?_
        refine vm_get (v := .int (g 3)) C hM inX6_tell_X6 3 (by decide) kwX6_tell_81 rfl rfl dX6_tell_57 ?_
        refine v_at (pc9 := 60) rfl ?_
        refine v_bipush (v := 120) C dX6_tell_60 (by decide) ?_
        refine v_icmp_eq (tgt := 75) C dX6_tell_62 (by decide) (fun c62 => ?_) (fun c62 => ?_)
        · have c62 : ns = 120 := by
            have h8 := congrArg Int32.toInt c62
            rw [hI.ser.1, ti_120] at h8; omega
          refine v_bipush (v := (-4)) C dX6_tell_75 (by decide) ?_
          exact v_iret C hr dX6_tell_77 (Nat.le_refl _) (Nat.le_refl _) ⟨_, rfl, ⟨g, ar, hM, hw0 ▸ hF, Or.inr (Or.inr ⟨⟨c4, c16⟩, hno, Or.inl ⟨by first | exact Or.inl c62 | exact Or.inr c72, rfl, rfl, rfl⟩⟩)⟩⟩
        · have c62 : ns < 120 := by
            rcases Nat.lt_or_ge ns 120 with q | q
            · exact q
            · exact absurd (by rw [hI.2.1.1, show ns = 120 by omega]; rfl) c62
          refine v_aload_n C dX6_tell_65 rfl rfl ?_
          refine vm_get (v := .int (g 10)) C hM inX6_tell_X6 10 (by decide) kwX6_tell_94 rfl rfl dX6_tell_66 ?_
          refine v_sipush (v := 2000) C dX6_tell_69 (by decide) ?_
          refine v_icmp_ne (tgt := 78) C dX6_tell_72 (by decide) (fun c72 => ?_) (fun c72 => ?_)
          · have c72 : np < 2000 := by
              rcases Nat.lt_or_ge np 2000 with q | q
              · exact q
              · exact absurd (by rw [hI.2.2.1.1, show np = 2000 by omega]; rfl) c72
            refine v_iload_n C dX6_tell_78 rfl rfl ?_
            refine v_bipush (v := (-9)) C dX6_tell_79 (by decide) ?_
            refine v_icmp_ne (tgt := 116) C dX6_tell_81 (by decide) (fun c81 => absurd c81 (fun h => h rfl)) (fun c81 => ?_)
            refine v_aload_n C dX6_tell_84 rfl rfl ?_
            refine vm_get (v := .int (g 3)) C hM inX6_tell_X6 3 (by decide) kwX6_tell_81 rfl rfl dX6_tell_85 ?_
            refine v_tov (y := nI ns) hI.2.1.1 ?_
            refine v_istore_n C dX6_tell_88 rfl (by decide) rfl ?_
            refine v_aload_n C dX6_tell_89 rfl rfl ?_
            refine v_dup C dX6_tell_90 rfl ?_
            refine vm_get (v := .int (g 3)) C hM inX6_tell_X6 3 (by decide) kwX6_tell_81 rfl rfl dX6_tell_91 ?_
            refine v_at (pc9 := 94) rfl ?_
            refine v_iconst (v := 1) C dX6_tell_94 (by decide) ?_
            refine v_iadd C dX6_tell_95 ?_
            refine v_tov (y := nI (ns + 1)) (by rw [hI.2.1.1]; exact nI_1 ns) ?_
            refine vm_puti C hM hF inX6_tell_X6 3 (by decide) kwX6_tell_81 rfl rfl (by decide +kernel) rfl dX6_tell_96 (fun zw hM hF => ?_)
            refine v_aload_n C dX6_tell_99 rfl rfl ?_
            refine vm_get (v := .ref (ad 4)) C hM inX6_tell_X6 4 (by decide) kwX6_tell_17 rfl rfl dX6_tell_100 ?_
            refine v_iload_n C dX6_tell_103 rfl rfl ?_
            refine v_iload_n C dX6_tell_104 rfl rfl ?_
            refine vm_iast C hM hF 4 3 rfl (vp_in_nI c62 (by decide)) rfl dX6_tell_105 (fun zw hM hF => ?_)
            rw [nI_clamp (show ns < 2 ^ 31 by omega)] at hM
            refine v_aload_n C dX6_tell_106 rfl rfl ?_
            refine vm_get (v := .ref (ad 7)) C hM inX6_tell_X6 7 (by decide) kwX6_tell_26 rfl rfl dX6_tell_107 ?_
            refine v_at (pc9 := 110) rfl ?_
            refine v_iload_n C dX6_tell_110 rfl rfl ?_
            refine v_aload_n C dX6_tell_111 rfl rfl ?_
            refine vm_get (v := .int (g 0)) C hM inX6_tell_X6 0 (by decide) kwX6_tell_65 rfl rfl dX6_tell_112 ?_
            refine vm_iast C hM hF 7 6 rfl (vp_in_nI c62 (by decide)) rfl dX6_tell_115 (fun zw hM hF => ?_)
            rw [nI_clamp (show ns < 2 ^ 31 by omega)] at hM
            exact tl0_X6_tell (w0 := w0) C hr (np := np) (j := ns) (g := upd g 3 (nI (ns + 1))) (ar := va_up (va_up ar 4 (upd (ar 4) ns x)) 7 (upd (ar 7) ns (g 0))) hI.2.2.1.1 c72 c62 hM hF (fun zw hM hF => ⟨_, _, hM, hw0 ▸ hF, Or.inr (Or.inr ⟨⟨c4, c16⟩, hno, Or.inr ⟨c62, c72, rfl, rfl, rfl⟩⟩)⟩)
          · have c72 : np = 2000 := by
              have h8 := congrArg Int32.toInt c72
              rw [hI.sam.1, ti_2000] at h8; omega
            refine v_bipush (v := (-4)) C dX6_tell_75 (by decide) ?_
            exact v_iret C hr dX6_tell_77 (Nat.le_refl _) (Nat.le_refl _) ⟨_, rfl, ⟨g, ar, hM, hw0 ▸ hF, Or.inr (Or.inr ⟨⟨c4, c16⟩, hno, Or.inl ⟨by first | exact Or.inl c62 | exact Or.inr c72, rfl, rfl, rfl⟩⟩)⟩⟩
    · have c16 := b01_0 c16
      simp only [t64, tl_0, tl_g] at c16
      refine v_bipush (v := (-2)) C dX6_tell_19 (by decide) ?_
      exact v_iret C hr dX6_tell_21 (Nat.le_refl _) (Nat.le_refl _) ⟨_, rfl, ⟨g, ar, hM, hw0 ▸ hF, Or.inl ⟨fun h => by first | exact c4 h.1 | exact c16 h.2, rfl, rfl, rfl⟩⟩⟩
/-- rows of b numbers, of which those of the kk ticks behind tk are as that of tk -/
def cpR (b : Nat) (f : Nat → Int32) (tk kk : Nat) (j : Nat) : Int32 := if b * (tk + 1) ≤ j ∧ j < b * (tk + kk + 1) then f (b * tk + j % b) else f j
def cpS (b : Nat) (f : Nat → Int32) (T i : Nat) (j : Nat) : Int32 := if b * (T + 1) ≤ j ∧ j < b * (T + 1) + i then f (j - b) else f j
theorem cpS_6 (f : Nat → Int32) (tk kk : Nat) : cpS 6 (cpR 6 f tk kk) (tk + kk) 6 = cpR 6 f tk (kk + 1) := by
  funext j
  unfold cpS cpR
  by_cases h : 6 * (tk + kk + 1) ≤ j ∧ j < 6 * (tk + kk + 1) + 6
  · rw [if_pos h, if_pos (show 6 * (tk + 1) ≤ j ∧ j < 6 * (tk + (kk + 1) + 1) by omega)]
    by_cases q : 6 * (tk + 1) ≤ j - 6 ∧ j - 6 < 6 * (tk + kk + 1)
    · rw [if_pos q, show (j - 6) % 6 = j % 6 by omega]
    · rw [if_neg q, show j - 6 = 6 * tk + j % 6 by omega]
  · rw [if_neg h]
    by_cases q : 6 * (tk + 1) ≤ j ∧ j < 6 * (tk + kk + 1)
    · rw [if_pos q, if_pos (by omega)]
    · rw [if_neg q, if_neg (by omega)]
theorem cpS_48 (f : Nat → Int32) (tk kk : Nat) : cpS 48 (cpR 48 f tk kk) (tk + kk) 48 = cpR 48 f tk (kk + 1) := by
  funext j
  unfold cpS cpR
  by_cases h : 48 * (tk + kk + 1) ≤ j ∧ j < 48 * (tk + kk + 1) + 48
  · rw [if_pos h, if_pos (show 48 * (tk + 1) ≤ j ∧ j < 48 * (tk + (kk + 1) + 1) by omega)]
    by_cases q : 48 * (tk + 1) ≤ j - 48 ∧ j - 48 < 48 * (tk + kk + 1)
    · rw [if_pos q, show (j - 48) % 48 = j % 48 by omega]
    · rw [if_neg q, show j - 48 = 48 * tk + j % 48 by omega]
  · rw [if_neg h]
    by_cases q : 48 * (tk + 1) ≤ j ∧ j < 48 * (tk + kk + 1)
    · rw [if_pos q, if_pos (by omega)]
    · rw [if_neg q, if_neg (by omega)]
theorem cpR_0 (b : Nat) (f : Nat → Int32) (tk : Nat) : cpR b f tk 0 = f := by
  funext j
  unfold cpR
  rw [if_neg (by rw [Nat.add_zero]; omega)]
theorem cpS_0 (b : Nat) (f : Nat → Int32) (T : Nat) : cpS b f T 0 = f := by
  funext j
  unfold cpS
  rw [if_neg (by omega)]
theorem cpS_s (b : Nat) (f : Nat → Int32) (T i : Nat) (hi : i < b) : upd (cpS b f T i) (b * (T + 1) + i) (cpS b f T i (b * T + i)) = cpS b f T (i + 1) := by
  have e1 : b * (T + 1) = b * T + b := Nat.mul_succ b T
  have e2 : cpS b f T i (b * T + i) = f (b * T + i) := by unfold cpS; rw [if_neg (by omega)]
  rw [e2]
  funext j
  by_cases h : j = b * (T + 1) + i
  · subst h
    rw [pk_us]
    unfold cpS
    rw [if_pos (by omega), show b * (T + 1) + i - b = b * T + i by omega]
  · rw [pk_un h]
    unfold cpS
    by_cases q : b * (T + 1) ≤ j ∧ j < b * (T + 1) + i
    · rw [if_pos q, if_pos (by omega)]
    · rw [if_neg q, if_neg (by omega)]
theorem ix6s (T m : Nat) : 6 * (nI T + 1) + nI m = nI (6 * (T + 1) + m) := by rw [nI_1, ix6]
theorem ix48s (T m : Nat) : 48 * (nI T + 1) + nI m = nI (48 * (T + 1) + m) := by rw [nI_1, ix48b]
theorem inX6_pass_X6 : ∀ x ∈ wsX60, x ∈ wsX6_pass := by decide +kernel
theorem kwX6_pass_7 : Cond.fieldLink RX6 7 "SeriesMarksModel" "dropped" "[Z" ∈ wsX6_pass := by decide +kernel
theorem kwX6_pass_65 : Cond.fieldLink RX6 65 "SeriesMarksModel" "tick" "I" ∈ wsX6_pass := by decide +kernel
set_option maxHeartbeats 4000000 in
set_option maxRecDepth 100000 in
theorem lpA_X6_pass {p : Program} {l : Launch} {e : Env} {R : Room} {s : State} {m : MethodId} {args : Array Value} {below : List Frame} {meth : Method} {c : Code} {cells slots : Nat} {Q : State → Prop} {E : gE} {w0 : va_W} (C : gC p s m args meth c E cX6_pass 4 wsX6_pass yX6_pass.cls) {ad : Nat → Nat} {g : Nat → Int32} {ar : Nat → Nat → Int32} {T : Nat} (hT : g 0 = nI T) (hT2 : T < 199) (hdr : ∀ i, i < 1200 → ar 1 i = 0 ∨ ar 1 i = 1) {n1 n2 : Int32} (hK : ∀ zw : va_W, mAt zw (mcl E ad g (va_up ar 1 (cpS 6 (ar 1) T 6))) → mFr w0 zw → V p l e R s m args below meth c E 4 zw cells slots Q 81 [(0, .ref (ad 0)), (1, .int n1), (2, .int n2), (3, .int (nI 6))] []) : ∀ n i : Nat, i + n = 6 → ∀ zw : va_W, mAt zw (mcl E ad g (va_up ar 1 (cpS 6 (ar 1) T i))) → mFr w0 zw → V p l e R s m args below meth c E 4 zw cells slots Q 39 [(0, .ref (ad 0)), (1, .int n1), (2, .int n2), (3, .int (nI i))] [] := by
  intro n
  induction n with
  | zero =>
    intro i hi zw hM hF
    obtain rfl : i = 6 := by omega
    refine v_iload_n C dX6_pass_39 rfl rfl ?_
    refine v_bipush (v := 6) C dX6_pass_40 (by decide) ?_
    refine v_icmp_ge (tgt := 81) C dX6_pass_42 (by decide) (fun c42 => ?_) (fun c42 => absurd (by rw [fa_le, ti_6, nI_toInt (by omega)]; omega) c42)
    exact hK zw hM hF
  | succ n ih =>
    intro i hi zw hM hF
    refine v_iload_n C dX6_pass_39 rfl rfl ?_
    refine v_bipush (v := 6) C dX6_pass_40 (by decide) ?_
    refine v_icmp_ge (tgt := 81) C dX6_pass_42 (by decide) (fun c42 => absurd c42 (by rw [fa_le, ti_6, nI_toInt (by omega)]; omega)) (fun c42 => ?_)
    refine v_aload_n C dX6_pass_45 rfl rfl ?_
    refine vm_get (v := .ref (ad 1)) C hM inX6_pass_X6 1 (by decide) kwX6_pass_7 rfl rfl dX6_pass_46 ?_
    refine v_bipush (v := 6) C dX6_pass_49 (by decide) ?_
    refine v_aload_n C dX6_pass_51 rfl rfl ?_
    refine vm_get (v := .int (g 0)) C hM inX6_pass_X6 0 (by decide) kwX6_pass_65 rfl rfl dX6_pass_52 ?_
    refine v_iconst (v := 1) C dX6_pass_55 (by decide) ?_
    refine v_at (pc9 := 56) rfl ?_
    refine v_iadd C dX6_pass_56 ?_
    refine v_imul C dX6_pass_57 ?_
    refine v_iload_n C dX6_pass_58 rfl rfl ?_
    refine v_iadd C dX6_pass_59 ?_
    refine v_tov (show 6 * (g 0 + 1) + nI i = nI (6 * (T + 1) + i) by rw [hT, ix6s]) ?_
    refine v_aload_n C dX6_pass_60 rfl rfl ?_
    refine vm_get (v := .ref (ad 1)) C hM inX6_pass_X6 1 (by decide) kwX6_pass_7 rfl rfl dX6_pass_61 ?_
    refine v_bipush (v := 6) C dX6_pass_64 (by decide) ?_
    refine v_aload_n C dX6_pass_66 rfl rfl ?_
    refine vm_get (v := .int (g 0)) C hM inX6_pass_X6 0 (by decide) kwX6_pass_65 rfl rfl dX6_pass_67 ?_
    refine v_imul C dX6_pass_70 ?_
    refine v_at (pc9 := 71) rfl ?_
    refine v_iload_n C dX6_pass_71 rfl rfl ?_
    refine v_iadd C dX6_pass_72 ?_
    refine v_tov (show 6 * g 0 + nI i = nI (6 * T + i) by rw [hT, ix6]) ?_
    refine vm_zald (f := cpS 6 (ar 1) T i) C hM 1 rfl (vp_in_nI (by omega) (by decide)) dX6_pass_73 ?_
    refine v_tov (congrArg (cpS 6 (ar 1) T i) (nI_clamp (show 6 * T + i < 2 ^ 31 by omega))) ?_
    refine vm_zast C hM hF 1 1 rfl (vp_in_nI (by omega) (by decide)) rfl dX6_pass_74 (fun zw hM hF => ?_)
    rw [bx_uu, va_up_self, nI_clamp (show 6 * (T + 1) + i < 2 ^ 31 by omega), show vp_nar .boolean (cpS 6 (ar 1) T i (6 * T + i)) = cpS 6 (ar 1) T i (6 * T + i) from by
      have h8 : cpS 6 (ar 1) T i (6 * T + i) = ar 1 (6 * T + i) := by unfold cpS; rw [if_neg (by omega)]
      rw [h8]; rcases hdr (6 * T + i) (by omega) with h7 | h7 <;> rw [h7] <;> rfl, cpS_s 6 _ T i (by omega)] at hM
    refine v_iincN C dX6_pass_75 rfl (by decide) rfl ?_
    refine v_goto (tgt := 39) C dX6_pass_78 (by decide) ?_
    exact ih (i + 1) (by omega) zw hM hF
theorem kwX6_pass_13 : Cond.fieldLink RX6 13 "SeriesMarksModel" "chief" "[I" ∈ wsX6_pass := by decide +kernel
set_option maxHeartbeats 4000000 in
set_option maxRecDepth 100000 in
theorem lpB_X6_pass {p : Program} {l : Launch} {e : Env} {R : Room} {s : State} {m : MethodId} {args : Array Value} {below : List Frame} {meth : Method} {c : Code} {cells slots : Nat} {Q : State → Prop} {E : gE} {w0 : va_W} (C : gC p s m args meth c E cX6_pass 4 wsX6_pass yX6_pass.cls) {ad : Nat → Nat} {g : Nat → Int32} {ar : Nat → Nat → Int32} {T : Nat} (hT : g 0 = nI T) (hT2 : T < 199) {n1 n2 : Int32} (hK : ∀ zw : va_W, mAt zw (mcl E ad g (va_up ar 2 (cpS 48 (ar 2) T 48))) → mFr w0 zw → V p l e R s m args below meth c E 4 zw cells slots Q 125 [(0, .ref (ad 0)), (1, .int n1), (2, .int n2), (3, .int (nI 48))] []) : ∀ n i : Nat, i + n = 48 → ∀ zw : va_W, mAt zw (mcl E ad g (va_up ar 2 (cpS 48 (ar 2) T i))) → mFr w0 zw → V p l e R s m args below meth c E 4 zw cells slots Q 83 [(0, .ref (ad 0)), (1, .int n1), (2, .int n2), (3, .int (nI i))] [] := by
  intro n
  induction n with
  | zero =>
    intro i hi zw hM hF
    obtain rfl : i = 48 := by omega
    refine v_iload_n C dX6_pass_83 rfl rfl ?_
    refine v_bipush (v := 48) C dX6_pass_84 (by decide) ?_
    refine v_icmp_ge (tgt := 125) C dX6_pass_86 (by decide) (fun c86 => ?_) (fun c86 => absurd (by rw [fa_le, ti_48, nI_toInt (by omega)]; omega) c86)
    exact hK zw hM hF
  | succ n ih =>
    intro i hi zw hM hF
    refine v_iload_n C dX6_pass_83 rfl rfl ?_
    refine v_bipush (v := 48) C dX6_pass_84 (by decide) ?_
    refine v_icmp_ge (tgt := 125) C dX6_pass_86 (by decide) (fun c86 => absurd c86 (by rw [fa_le, ti_48, nI_toInt (by omega)]; omega)) (fun c86 => ?_)
    refine v_aload_n C dX6_pass_89 rfl rfl ?_
    refine vm_get (v := .ref (ad 2)) C hM inX6_pass_X6 2 (by decide) kwX6_pass_13 rfl rfl dX6_pass_90 ?_
    refine v_bipush (v := 48) C dX6_pass_93 (by decide) ?_
    refine v_aload_n C dX6_pass_95 rfl rfl ?_
    refine vm_get (v := .int (g 0)) C hM inX6_pass_X6 0 (by decide) kwX6_pass_65 rfl rfl dX6_pass_96 ?_
    refine v_iconst (v := 1) C dX6_pass_99 (by decide) ?_
    refine v_at (pc9 := 100) rfl ?_
    refine v_iadd C dX6_pass_100 ?_
    refine v_imul C dX6_pass_101 ?_
    refine v_iload_n C dX6_pass_102 rfl rfl ?_
    refine v_iadd C dX6_pass_103 ?_
    refine v_tov (show 48 * (g 0 + 1) + nI i = nI (48 * (T + 1) + i) by rw [hT, ix48s]) ?_
    refine v_aload_n C dX6_pass_104 rfl rfl ?_
    refine vm_get (v := .ref (ad 2)) C hM inX6_pass_X6 2 (by decide) kwX6_pass_13 rfl rfl dX6_pass_105 ?_
    refine v_bipush (v := 48) C dX6_pass_108 (by decide) ?_
    refine v_aload_n C dX6_pass_110 rfl rfl ?_
    refine vm_get (v := .int (g 0)) C hM inX6_pass_X6 0 (by decide) kwX6_pass_65 rfl rfl dX6_pass_111 ?_
    refine v_imul C dX6_pass_114 ?_
    refine v_at (pc9 := 115) rfl ?_
    refine v_iload_n C dX6_pass_115 rfl rfl ?_
    refine v_iadd C dX6_pass_116 ?_
    refine v_tov (show 48 * g 0 + nI i = nI (48 * T + i) by rw [hT, ix48b]) ?_
    refine vm_iald (f := cpS 48 (ar 2) T i) C hM 2 rfl (vp_in_nI (by omega) (by decide)) dX6_pass_117 ?_
    refine v_tov (congrArg (cpS 48 (ar 2) T i) (nI_clamp (show 48 * T + i < 2 ^ 31 by omega))) ?_
    refine vm_iast C hM hF 2 2 rfl (vp_in_nI (by omega) (by decide)) rfl dX6_pass_118 (fun zw hM hF => ?_)
    rw [bx_uu, va_up_self, nI_clamp (show 48 * (T + 1) + i < 2 ^ 31 by omega), cpS_s 48 _ T i (by omega)] at hM
    refine v_iincN C dX6_pass_119 rfl (by decide) rfl ?_
    refine v_goto (tgt := 83) C dX6_pass_122 (by decide) ?_
    exact ih (i + 1) (by omega) zw hM hF
theorem mAt_ext {zw X Y : va_W} (h : mAt zw X) (e : X = Y) : mAt zw Y := e ▸ h
set_option maxHeartbeats 4000000 in
set_option maxRecDepth 100000 in
theorem lpC_X6_pass {p : Program} {l : Launch} {e : Env} {R : Room} {s : State} {m : MethodId} {args : Array Value} {below : List Frame} {meth : Method} {c : Code} {cells slots : Nat} {Q : State → Prop} {E : gE} {w0 : va_W} (C : gC p s m args meth c E cX6_pass 4 wsX6_pass yX6_pass.cls) {ad : Nat → Nat} {g : Nat → Int32} {ar : Nat → Nat → Int32} {tk ns np na : Nat} (hI : MI g ar tk ns np na) {nn : Nat} (hnn : tk + nn ≤ 199) (hK : ∀ zw : va_W, mAt zw (mcl E ad (upd g 0 (nI (tk + nn))) (va_up (va_up ar 1 (cpR 6 (ar 1) tk nn)) 2 (cpR 48 (ar 2) tk nn))) → mFr w0 zw → V p l e R s m args below meth c E 4 zw cells slots Q 141 [(0, .ref (ad 0)), (1, .int (nI nn)), (2, .int (nI nn))] []) : ∀ n i : Nat, i + n = nn → ∀ zw : va_W, mAt zw (mcl E ad (upd g 0 (nI (tk + i))) (va_up (va_up ar 1 (cpR 6 (ar 1) tk i)) 2 (cpR 48 (ar 2) tk i))) → mFr w0 zw → V p l e R s m args below meth c E 4 zw cells slots Q 32 [(0, .ref (ad 0)), (1, .int (nI nn)), (2, .int (nI i))] [] := by
  intro n
  induction n with
  | zero =>
    intro i hi zw hM hF
    obtain rfl : i = nn := by omega
    refine v_iload_n C dX6_pass_32 rfl rfl ?_
    refine v_iload_n C dX6_pass_33 rfl rfl ?_
    refine v_icmp_ge (tgt := 141) C dX6_pass_34 (by decide) (fun c34 => ?_) (fun c34 => absurd (nI_le (Nat.le_refl _) (by omega)) c34)
    exact hK zw hM hF
  | succ n ih =>
    intro i hi zw hM hF
    refine v_iload_n C dX6_pass_32 rfl rfl ?_
    refine v_iload_n C dX6_pass_33 rfl rfl ?_
    refine v_icmp_ge (tgt := 141) C dX6_pass_34 (by decide) (fun c34 => absurd c34 (nI_ge (by omega) (by omega))) (fun c34 => ?_)
    refine v_iconst (v := 0) C dX6_pass_37 (by decide) ?_
    refine v_tov nI_0.symm ?_
    refine v_istore_n C dX6_pass_38 rfl (by decide) rfl ?_
    refine lpA_X6_pass (w0 := w0) (T := tk + i) (g := (upd g 0 (nI (tk + i)))) (ar := (va_up (va_up ar 1 (cpR 6 (ar 1) tk i)) 2 (cpR 48 (ar 2) tk i))) C rfl (by omega) (fun j hj => ?_) ?_ 6 0 rfl zw (by rw [cpS_0, bx_k]; exact hM) hF
    · show cpR 6 (ar 1) tk i j = 0 ∨ cpR 6 (ar 1) tk i j = 1
      unfold cpR
      split
      · exact hI.dr _ (by omega)
      · exact hI.dr _ hj
    intro zw hM hF
    refine v_iconst (v := 0) C dX6_pass_81 (by decide) ?_
    refine v_tov nI_0.symm ?_
    refine v_istore_n C dX6_pass_82 rfl (by decide) rfl ?_
    refine lpB_X6_pass (w0 := w0) (T := tk + i) C rfl (by omega) ?_ 48 0 rfl zw (by rw [cpS_0, bx_k]; exact hM) hF
    intro zw hM hF
    have hM : mAt zw (mcl E ad (upd g 0 (nI (tk + i))) (va_up (va_up ar 1 (cpR 6 (ar 1) tk (i + 1))) 2 (cpR 48 (ar 2) tk (i + 1)))) := by
      rw [← cpS_6, ← cpS_48]
      refine mAt_ext hM ?_
      rfl
    refine v_aload_n C dX6_pass_125 rfl rfl ?_
    refine v_dup C dX6_pass_126 rfl ?_
    refine vm_get (v := .int (nI (tk + i))) C hM inX6_pass_X6 0 (by decide) kwX6_pass_65 rfl rfl dX6_pass_127 ?_
    refine v_iconst (v := 1) C dX6_pass_130 (by decide) ?_
    refine v_iadd C dX6_pass_131 ?_
    refine v_tov (y := nI (tk + (i + 1))) (nI_1 (tk + i)) ?_
    refine vm_puti C hM hF inX6_pass_X6 0 (by decide) kwX6_pass_65 rfl rfl (by decide +kernel) rfl dX6_pass_132 (fun zw hM hF => ?_)
    rw [fa_upd_twice] at hM
    refine v_pick (lv9 := [(0, .ref (ad 0)), (1, .int (nI nn)), (2, .int (nI i))]) ⟨rfl, rfl, rfl, trivial⟩ ?_
    refine v_iincN C dX6_pass_135 rfl (by decide) rfl ?_
    refine v_goto (tgt := 32) C dX6_pass_138 (by decide) ?_
    exact ih (i + 1) (by omega) zw hM hF
theorem kwX6_pass_c79 : Cond.constantLong RX6 79 (199) ∈ wsX6_pass := by decide +kernel
set_option maxHeartbeats 4000000 in
set_option maxRecDepth 100000 in
theorem c_X6_pass (l : Launch) (E : gE) (zw : va_W) {ad : Nat → Nat} {g : Nat → Int32} {ar : Nat → Nat → Int32} (hM : mAt zw (mcl E ad g ar)) {tk ns np na : Nat} (hI : MI g ar tk ns np na) (x : Int32) : CtI l yX6_pass wsX6_pass ({ frames := 1, cells := 0, slots := 0, locals := 25 }) E [.ref (ad 0), .int x] zw (fun r w1 => ∃ (g1 : Nat → Int32) (ar1 : Nat → Nat → Int32), mAt w1 (mcl E ad g1 ar1) ∧ mFr zw w1 ∧ (((1 ≤ x.toInt ∧ x.toInt ≤ 199) ∧ tk + x.toNatClampNeg ≤ 199 ∧ r = nI (tk + x.toNatClampNeg) ∧ g1 = upd g 0 (nI (tk + x.toNatClampNeg)) ∧ ar1 = va_up (va_up ar 1 (cpR 6 (ar 1) tk x.toNatClampNeg)) 2 (cpR 48 (ar 2) tk x.toNatClampNeg)) ∨ (¬ ((1 ≤ x.toInt ∧ x.toInt ≤ 199) ∧ tk + x.toNatClampNeg ≤ 199) ∧ g1 = g ∧ ar1 = ar ∧ r = if 1 ≤ x.toInt ∧ x.toInt ≤ 199 then (-4) else (-2)))) 0 0 := by
  refine Ct.of (cc := cX6_pass) (nL := 4) (ret := (some .int)) (by decide) rfl (Nat.le_of_ble_eq_true rfl) ?_
  intro p e s m args below meth c C hr hnm
  refine v_eqlv (lv9 := [(0, .ref (ad 0)), (1, .int x)]) rfl ?_
  obtain ⟨w0, hw0⟩ : ∃ w0 : va_W, w0 = zw := ⟨_, rfl⟩
  have hF : mFr w0 zw := by rw [hw0]; exact mFr.rf zw
  refine v_iload_n C dX6_pass_0 rfl rfl ?_
  refine v_i2l C dX6_pass_1 rfl ?_
  refine v_lconst (v := 1) C dX6_pass_2 (by decide) ?_
  refine v_ldc2 C kwX6_pass_c79 dX6_pass_3 ?_
  refine v_callSi C (c_X6_in l E zw _ _ _) (va_cwS 3 C.1.2.2.2.2 gX6_pass_X6_in rfl rfl rfl (by decide +kernel) ⟨by decide, by decide⟩) rfl rfl (Nat.le_of_ble_eq_true rfl) dX6_pass_6 ⟨Nat.le_of_ble_eq_true rfl, Nat.le_of_ble_eq_true rfl⟩ (fun r w1 hp => ?_)
  obtain ⟨rfl, rfl⟩ := hp
  refine v_if_ne (tgt := 15) C dX6_pass_9 (by decide) (fun c9 => ?_) (fun c9 => ?_)
  · have c9 := b01_n c9
    simp only [t64, tl_1, tl_199] at c9
    have ht9 := hI.tick
    obtain ⟨nn, hnn, rfl⟩ : ∃ nn : Nat, nn ≤ 199 ∧ x = nI nn := ⟨x.toInt.toNat, by omega, nI_nat (by omega)⟩
    refine v_aload_n C dX6_pass_15 rfl rfl ?_
    refine vm_get (v := .int (g 0)) C hM inX6_pass_X6 0 (by decide) kwX6_pass_65 rfl rfl dX6_pass_16 ?_
    refine v_iload_n C dX6_pass_19 rfl rfl ?_
    refine v_iadd C dX6_pass_20 ?_
    refine v_tov (y := nI (tk + nn)) (by rw [hI.1.1, nI_add]) ?_
    refine v_sipush (v := 199) C dX6_pass_21 (by decide) ?_
    refine v_icmp_le (tgt := 30) C dX6_pass_24 (by decide) (fun c24 => ?_) (fun c24 => ?_)
    · have c24 : tk + nn ≤ 199 := by
        rw [fa_le, ti_199, nI_toInt (by omega)] at c24; omega
      refine v_iconst (v := 0) C dX6_pass_30 (by decide) ?_
      refine v_tov nI_0.symm ?_
      refine v_istore_n C dX6_pass_31 rfl (by decide) rfl ?_
      refine lpC_X6_pass (w0 := w0) C hI c24 ?_ nn 0 (Nat.zero_add _) zw (by
        rw [cpR_0, cpR_0, bx_k]
        have e8 : upd g 0 (nI (tk + 0)) = g := fa_upd_same hI.1.1
        rw [e8]
        refine mAt_ext hM ?_
        exact congrArg (mcl E ad g) (bx_k ar 2).symm) hF
      intro zw hM hF
      refine v_aload_n C dX6_pass_141 rfl rfl ?_
      refine vm_get (v := .int (nI (tk + nn))) C hM inX6_pass_X6 0 (by decide) kwX6_pass_65 rfl rfl dX6_pass_142 ?_
      exact v_iret C hr dX6_pass_145 (Nat.le_refl _) (Nat.le_refl _) ⟨_, rfl, (by first | exact ⟨_, _, hM, hw0 ▸ hF, Or.inl ⟨c9, by rw [nI_clamp (by omega)]; exact c24, by rw [nI_clamp (by omega)], by rw [nI_clamp (by omega)], by rw [nI_clamp (by omega)]⟩⟩ | exact ⟨g, ar, hM, hw0 ▸ hF, Or.inr ⟨fun h => by first | exact c9 h.1 | (apply c24; have := h.2; rw [nI_clamp (by omega)] at this; exact this), rfl, rfl, by first | (rw [if_pos c9]; done) | (rw [if_neg c9]; done)⟩⟩)⟩
    · have c24 : ¬ tk + nn ≤ 199 := fun h => c24 (by rw [fa_le, ti_199, nI_toInt (by omega)]; omega)
      refine v_bipush (v := (-4)) C dX6_pass_27 (by decide) ?_
      exact v_iret C hr dX6_pass_29 (Nat.le_refl _) (Nat.le_refl _) ⟨_, rfl, (by first | exact ⟨_, _, hM, hw0 ▸ hF, Or.inl ⟨c9, by rw [nI_clamp (by omega)]; exact c24, by rw [nI_clamp (by omega)], by rw [nI_clamp (by omega)], by rw [nI_clamp (by omega)]⟩⟩ | exact ⟨g, ar, hM, hw0 ▸ hF, Or.inr ⟨fun h => by first | exact c9 h.1 | (apply c24; have := h.2; rw [nI_clamp (by omega)] at this; exact this), rfl, rfl, by first | (rw [if_pos c9]; done) | (rw [if_neg c9]; done)⟩⟩)⟩
  · have c9 := b01_0 c9
    simp only [t64, tl_1, tl_199] at c9
    refine v_bipush (v := (-2)) C dX6_pass_12 (by decide) ?_
    exact v_iret C hr dX6_pass_14 (Nat.le_refl _) (Nat.le_refl _) ⟨_, rfl, (by first | exact ⟨_, _, hM, hw0 ▸ hF, Or.inl ⟨c9, by rw [nI_clamp (by omega)]; exact c24, by rw [nI_clamp (by omega)], by rw [nI_clamp (by omega)], by rw [nI_clamp (by omega)]⟩⟩ | exact ⟨g, ar, hM, hw0 ▸ hF, Or.inr ⟨fun h => by first | exact c9 h.1 | (apply c24; have := h.2; rw [nI_clamp (by omega)] at this; exact this), rfl, rfl, by first | (rw [if_pos c9]; done) | (rw [if_neg c9]; done)⟩⟩)⟩
