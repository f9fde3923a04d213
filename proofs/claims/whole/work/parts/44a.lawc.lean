set_option maxHeartbeats 4000000 in
set_option maxRecDepth 100000 in
theorem lc_pass {p : Program} {l : Launch} {e : Env} {s : State} {m : MethodId} {below : List Frame} {meth : Method} {c : Code} {Q : State → Prop} {E : gE} {b L : Nat} {xs : Nat → Int32} (C : gC p s m #[Value.ref b] meth c E cL_law 4 wsL_law RL) (hX : va_X b L xs s s.heap) (hbl : b < s.heap.size) (hbA : ¬ gA E b) (hL : L ≤ 2560) {a1 b1 i cells slots : Nat} (hi : i + 5 ≤ L) (hce : cells + 4 ≤ 600000) (hsl : slots + 6009 ≤ 7302250) {zw : va_W} (hV : INV E a1 b1 zw) (hK : ∀ w1 : va_W, INV E a1 b1 w1 → V p l e room_1 s m #[Value.ref b] below meth c E 4 w1 (cells + 4) (slots + 6009) Q 1174 [(0, .ref b), (1, .ref a1), (2, .ref b1), (3, .int (nI i))] []) : V p l e room_1 s m #[Value.ref b] below meth c E 4 zw cells slots Q 152 [(0, .ref b), (1, .ref a1), (2, .ref b1), (3, .int (nI i))] [] := by
  obtain ⟨⟨fs0, h5⟩, Mid, k1, k2⟩ := pr_pass l hV (xs (nI (i + 1)).toNatClampNeg)
  refine v_aload_n C dL_law_152 rfl rfl ?_
  refine v_aload_n C dL_law_153 rfl rfl ?_
  refine v_iload_n C dL_law_154 rfl rfl ?_
  refine v_iconst (v := 1) C dL_law_155 (by decide) ?_
  refine v_iadd C dL_law_156 ?_
  refine v_tov (y := nI (i + 1)) (nI_add i 1) ?_
  refine v_sld C hX hbl hbA (vp_in_nI (by omega) (by omega)) dL_law_157 ?_
  refine v_callVi C k1 (cwV 1 C.1.2.2.2.2 gL_law_X5_pass rfl rfl rfl (by decide +kernel) ⟨(Nat.le_of_ble_eq_true rfl), (Nat.le_of_ble_eq_true rfl)⟩) 0 6 h5 rfl rfl rfl (Nat.le_of_ble_eq_true rfl) dL_law_158 ⟨show cells + 0 ≤ 600000 by omega, show slots + 0 ≤ 7302250 by omega⟩ (fun r w1 hp => ?_)
  obtain ⟨⟨fs1, h6⟩, k3⟩ := k2 r w1 hp
  refine v_aload_n C dL_law_161 rfl rfl ?_
  refine v_aload_n C dL_law_162 rfl rfl ?_
  refine v_iload_n C dL_law_163 rfl rfl ?_
  refine v_iconst (v := 1) C dL_law_164 (by decide) ?_
  refine v_iadd C dL_law_165 ?_
  refine v_tov (y := nI (i + 1)) (nI_add i 1) ?_
  refine v_sld C hX hbl hbA (vp_in_nI (by omega) (by omega)) dL_law_166 ?_
  refine v_callVi C k3 (cwV 1 C.1.2.2.2.2 gL_law_X6_pass rfl rfl rfl (by decide +kernel) ⟨(Nat.le_of_ble_eq_true rfl), (Nat.le_of_ble_eq_true rfl)⟩) 12 7 h6 rfl rfl rfl (Nat.le_of_ble_eq_true rfl) dL_law_167 ⟨show cells + 0 + 0 ≤ 600000 by omega, show slots + 0 + 0 ≤ 7302250 by omega⟩ (fun r2 w2 hp2 => ?_)
  obtain ⟨hr9, hV2⟩ := hp2
  exact v_icmp_eq (tgt := 1174) C dL_law_170 (by decide) (fun _ => v_widen (kc := cells + 4) (ks := slots + 6009) (by omega) (by omega) (hK w2 hV2)) (fun c9 => absurd hr9.symm c9)
set_option maxHeartbeats 4000000 in
set_option maxRecDepth 100000 in
theorem lc_tell {p : Program} {l : Launch} {e : Env} {s : State} {m : MethodId} {below : List Frame} {meth : Method} {c : Code} {Q : State → Prop} {E : gE} {b L : Nat} {xs : Nat → Int32} (C : gC p s m #[Value.ref b] meth c E cL_law 4 wsL_law RL) (hX : va_X b L xs s s.heap) (hbl : b < s.heap.size) (hbA : ¬ gA E b) (hL : L ≤ 2560) {a1 b1 i cells slots : Nat} (hi : i + 5 ≤ L) (hce : cells + 4 ≤ 600000) (hsl : slots + 6009 ≤ 7302250) {zw : va_W} (hV : INV E a1 b1 zw) (hK : ∀ w1 : va_W, INV E a1 b1 w1 → V p l e room_1 s m #[Value.ref b] below meth c E 4 w1 (cells + 4) (slots + 6009) Q 1174 [(0, .ref b), (1, .ref a1), (2, .ref b1), (3, .int (nI i))] []) : V p l e room_1 s m #[Value.ref b] below meth c E 4 zw cells slots Q 175 [(0, .ref b), (1, .ref a1), (2, .ref b1), (3, .int (nI i))] [] := by
  obtain ⟨⟨fs0, h5⟩, Mid, k1, k2⟩ := pr_tell l hV (xs (nI (i + 1)).toNatClampNeg) (xs (nI (i + 2)).toNatClampNeg)
  refine v_aload_n C dL_law_175 rfl rfl ?_
  refine v_aload_n C dL_law_176 rfl rfl ?_
  refine v_iload_n C dL_law_177 rfl rfl ?_
  refine v_iconst (v := 1) C dL_law_178 (by decide) ?_
  refine v_iadd C dL_law_179 ?_
  refine v_tov (y := nI (i + 1)) (nI_add i 1) ?_
  refine v_sld C hX hbl hbA (vp_in_nI (by omega) (by omega)) dL_law_180 ?_
  refine v_aload_n C dL_law_181 rfl rfl ?_
  refine v_iload_n C dL_law_182 rfl rfl ?_
  refine v_iconst (v := 2) C dL_law_183 (by decide) ?_
  refine v_iadd C dL_law_184 ?_
  refine v_tov (y := nI (i + 2)) (nI_add i 2) ?_
  refine v_sld C hX hbl hbA (vp_in_nI (by omega) (by omega)) dL_law_185 ?_
  refine v_callVi C k1 (cwV 2 C.1.2.2.2.2 gL_law_X5_tell rfl rfl rfl (by decide +kernel) ⟨(Nat.le_of_ble_eq_true rfl), (Nat.le_of_ble_eq_true rfl)⟩) 0 6 h5 rfl rfl rfl (Nat.le_of_ble_eq_true rfl) dL_law_186 ⟨show cells + 4 ≤ 600000 by omega, show slots + 6009 ≤ 7302250 by omega⟩ (fun r w1 hp => ?_)
  obtain ⟨⟨fs1, h6⟩, k3⟩ := k2 r w1 hp
  refine v_aload_n C dL_law_189 rfl rfl ?_
  refine v_aload_n C dL_law_190 rfl rfl ?_
  refine v_iload_n C dL_law_191 rfl rfl ?_
  refine v_iconst (v := 1) C dL_law_192 (by decide) ?_
  refine v_iadd C dL_law_193 ?_
  refine v_tov (y := nI (i + 1)) (nI_add i 1) ?_
  refine v_sld C hX hbl hbA (vp_in_nI (by omega) (by omega)) dL_law_194 ?_
  refine v_aload_n C dL_law_195 rfl rfl ?_
  refine v_iload_n C dL_law_196 rfl rfl ?_
  refine v_iconst (v := 2) C dL_law_197 (by decide) ?_
  refine v_iadd C dL_law_198 ?_
  refine v_tov (y := nI (i + 2)) (nI_add i 2) ?_
  refine v_sld C hX hbl hbA (vp_in_nI (by omega) (by omega)) dL_law_199 ?_
  refine v_callVi C k3 (cwV 2 C.1.2.2.2.2 gL_law_X6_tell rfl rfl rfl (by decide +kernel) ⟨(Nat.le_of_ble_eq_true rfl), (Nat.le_of_ble_eq_true rfl)⟩) 12 7 h6 rfl rfl rfl (Nat.le_of_ble_eq_true rfl) dL_law_200 ⟨show cells + 4 + 0 ≤ 600000 by omega, show slots + 6009 + 0 ≤ 7302250 by omega⟩ (fun r2 w2 hp2 => ?_)
  obtain ⟨hr9, hV2⟩ := hp2
  exact v_icmp_eq (tgt := 1174) C dL_law_203 (by decide) (fun _ => v_widen (kc := cells + 4) (ks := slots + 6009) (by omega) (by omega) (hK w2 hV2)) (fun c9 => absurd hr9.symm c9)
set_option maxHeartbeats 4000000 in
set_option maxRecDepth 100000 in
theorem lc_series {p : Program} {l : Launch} {e : Env} {s : State} {m : MethodId} {below : List Frame} {meth : Method} {c : Code} {Q : State → Prop} {E : gE} {b L : Nat} {xs : Nat → Int32} (C : gC p s m #[Value.ref b] meth c E cL_law 4 wsL_law RL) (hX : va_X b L xs s s.heap) (hbl : b < s.heap.size) (hbA : ¬ gA E b) (hL : L ≤ 2560) {a1 b1 i cells slots : Nat} (hi : i + 5 ≤ L) (hce : cells + 4 ≤ 600000) (hsl : slots + 6009 ≤ 7302250) {zw : va_W} (hV : INV E a1 b1 zw) (hK : ∀ w1 : va_W, INV E a1 b1 w1 → V p l e room_1 s m #[Value.ref b] below meth c E 4 w1 (cells + 4) (slots + 6009) Q 1174 [(0, .ref b), (1, .ref a1), (2, .ref b1), (3, .int (nI i))] []) : V p l e room_1 s m #[Value.ref b] below meth c E 4 zw cells slots Q 208 [(0, .ref b), (1, .ref a1), (2, .ref b1), (3, .int (nI i))] [] := by
  obtain ⟨⟨fs0, h5⟩, Mid, k1, k2⟩ := pr_series l hV (xs (nI (i + 1)).toNatClampNeg) (xs (nI (i + 2)).toNatClampNeg)
  refine v_aload_n C dL_law_208 rfl rfl ?_
  refine v_aload_n C dL_law_209 rfl rfl ?_
  refine v_iload_n C dL_law_210 rfl rfl ?_
  refine v_iconst (v := 1) C dL_law_211 (by decide) ?_
  refine v_iadd C dL_law_212 ?_
  refine v_tov (y := nI (i + 1)) (nI_add i 1) ?_
  refine v_sld C hX hbl hbA (vp_in_nI (by omega) (by omega)) dL_law_213 ?_
  refine v_aload_n C dL_law_214 rfl rfl ?_
  refine v_iload_n C dL_law_215 rfl rfl ?_
  refine v_iconst (v := 2) C dL_law_216 (by decide) ?_
  refine v_iadd C dL_law_217 ?_
  refine v_tov (y := nI (i + 2)) (nI_add i 2) ?_
  refine v_sld C hX hbl hbA (vp_in_nI (by omega) (by omega)) dL_law_218 ?_
  refine v_callVi C k1 (cwV 2 C.1.2.2.2.2 gL_law_X5_series rfl rfl rfl (by decide +kernel) ⟨(Nat.le_of_ble_eq_true rfl), (Nat.le_of_ble_eq_true rfl)⟩) 0 6 h5 rfl rfl rfl (Nat.le_of_ble_eq_true rfl) dL_law_219 ⟨show cells + 0 ≤ 600000 by omega, show slots + 0 ≤ 7302250 by omega⟩ (fun r w1 hp => ?_)
  obtain ⟨⟨fs1, h6⟩, k3⟩ := k2 r w1 hp
  refine v_aload_n C dL_law_222 rfl rfl ?_
  refine v_aload_n C dL_law_223 rfl rfl ?_
  refine v_iload_n C dL_law_224 rfl rfl ?_
  refine v_iconst (v := 1) C dL_law_225 (by decide) ?_
  refine v_iadd C dL_law_226 ?_
  refine v_tov (y := nI (i + 1)) (nI_add i 1) ?_
  refine v_sld C hX hbl hbA (vp_in_nI (by omega) (by omega)) dL_law_227 ?_
  refine v_aload_n C dL_law_228 rfl rfl ?_
  refine v_iload_n C dL_law_229 rfl rfl ?_
  refine v_iconst (v := 2) C dL_law_230 (by decide) ?_
  refine v_iadd C dL_law_231 ?_
  refine v_tov (y := nI (i + 2)) (nI_add i 2) ?_
  refine v_sld C hX hbl hbA (vp_in_nI (by omega) (by omega)) dL_law_232 ?_
  refine v_callVi C k3 (cwV 2 C.1.2.2.2.2 gL_law_X6_series rfl rfl rfl (by decide +kernel) ⟨(Nat.le_of_ble_eq_true rfl), (Nat.le_of_ble_eq_true rfl)⟩) 12 7 h6 rfl rfl rfl (Nat.le_of_ble_eq_true rfl) dL_law_233 ⟨show cells + 0 + 0 ≤ 600000 by omega, show slots + 0 + 0 ≤ 7302250 by omega⟩ (fun r2 w2 hp2 => ?_)
  obtain ⟨hr9, hV2⟩ := hp2
  exact v_icmp_eq (tgt := 1174) C dL_law_236 (by decide) (fun _ => v_widen (kc := cells + 4) (ks := slots + 6009) (by omega) (by omega) (hK w2 hV2)) (fun c9 => absurd hr9.symm c9)
set_option maxHeartbeats 4000000 in
set_option maxRecDepth 100000 in
theorem lc_find {p : Program} {l : Launch} {e : Env} {s : State} {m : MethodId} {below : List Frame} {meth : Method} {c : Code} {Q : State → Prop} {E : gE} {b L : Nat} {xs : Nat → Int32} (C : gC p s m #[Value.ref b] meth c E cL_law 4 wsL_law RL) (hX : va_X b L xs s s.heap) (hbl : b < s.heap.size) (hbA : ¬ gA E b) (hL : L ≤ 2560) {a1 b1 i cells slots : Nat} (hi : i + 5 ≤ L) (hce : cells + 4 ≤ 600000) (hsl : slots + 6009 ≤ 7302250) {zw : va_W} (hV : INV E a1 b1 zw) (hK : ∀ w1 : va_W, INV E a1 b1 w1 → V p l e room_1 s m #[Value.ref b] below meth c E 4 w1 (cells + 4) (slots + 6009) Q 1174 [(0, .ref b), (1, .ref a1), (2, .ref b1), (3, .int (nI i))] []) : V p l e room_1 s m #[Value.ref b] below meth c E 4 zw cells slots Q 241 [(0, .ref b), (1, .ref a1), (2, .ref b1), (3, .int (nI i))] [] := by
  obtain ⟨⟨fs0, h5⟩, Mid, k1, k2⟩ := pr_find l hV (xs (nI (i + 1)).toNatClampNeg)
  refine v_aload_n C dL_law_241 rfl rfl ?_
  refine v_aload_n C dL_law_242 rfl rfl ?_
  refine v_iload_n C dL_law_243 rfl rfl ?_
  refine v_iconst (v := 1) C dL_law_244 (by decide) ?_
  refine v_iadd C dL_law_245 ?_
  refine v_tov (y := nI (i + 1)) (nI_add i 1) ?_
  refine v_sld C hX hbl hbA (vp_in_nI (by omega) (by omega)) dL_law_246 ?_
  refine v_callVi C k1 (cwV 1 C.1.2.2.2.2 gL_law_X5_find rfl rfl rfl (by decide +kernel) ⟨(Nat.le_of_ble_eq_true rfl), (Nat.le_of_ble_eq_true rfl)⟩) 0 6 h5 rfl rfl rfl (Nat.le_of_ble_eq_true rfl) dL_law_247 ⟨show cells + 0 ≤ 600000 by omega, show slots + 0 ≤ 7302250 by omega⟩ (fun r w1 hp => ?_)
  obtain ⟨⟨fs1, h6⟩, k3⟩ := k2 r w1 hp
  refine v_aload_n C dL_law_250 rfl rfl ?_
  refine v_aload_n C dL_law_251 rfl rfl ?_
  refine v_iload_n C dL_law_252 rfl rfl ?_
  refine v_iconst (v := 1) C dL_law_253 (by decide) ?_
  refine v_iadd C dL_law_254 ?_
  refine v_tov (y := nI (i + 1)) (nI_add i 1) ?_
  refine v_sld C hX hbl hbA (vp_in_nI (by omega) (by omega)) dL_law_255 ?_
  refine v_callVi C k3 (cwV 1 C.1.2.2.2.2 gL_law_X6_find rfl rfl rfl (by decide +kernel) ⟨(Nat.le_of_ble_eq_true rfl), (Nat.le_of_ble_eq_true rfl)⟩) 12 7 h6 rfl rfl rfl (Nat.le_of_ble_eq_true rfl) dL_law_256 ⟨show cells + 0 + 0 ≤ 600000 by omega, show slots + 0 + 0 ≤ 7302250 by omega⟩ (fun r2 w2 hp2 => ?_)
  obtain ⟨hr9, hV2⟩ := hp2
  exact v_icmp_eq (tgt := 1174) C dL_law_259 (by decide) (fun _ => v_widen (kc := cells + 4) (ks := slots + 6009) (by omega) (by omega) (hK w2 hV2)) (fun c9 => absurd hr9.symm c9)
set_option maxHeartbeats 4000000 in
set_option maxRecDepth 100000 in
theorem lc_growth {p : Program} {l : Launch} {e : Env} {s : State} {m : MethodId} {below : List Frame} {meth : Method} {c : Code} {Q : State → Prop} {E : gE} {b L : Nat} {xs : Nat → Int32} (C : gC p s m #[Value.ref b] meth c E cL_law 4 wsL_law RL) (hX : va_X b L xs s s.heap) (hbl : b < s.heap.size) (hbA : ¬ gA E b) (hL : L ≤ 2560) {a1 b1 i cells slots : Nat} (hi : i + 5 ≤ L) (hce : cells + 4 ≤ 600000) (hsl : slots + 6009 ≤ 7302250) {zw : va_W} (hV : INV E a1 b1 zw) (hK : ∀ w1 : va_W, INV E a1 b1 w1 → V p l e room_1 s m #[Value.ref b] below meth c E 4 w1 (cells + 4) (slots + 6009) Q 1174 [(0, .ref b), (1, .ref a1), (2, .ref b1), (3, .int (nI i))] []) : V p l e room_1 s m #[Value.ref b] below meth c E 4 zw cells slots Q 264 [(0, .ref b), (1, .ref a1), (2, .ref b1), (3, .int (nI i))] [] := by
  obtain ⟨⟨fs0, h5⟩, Mid, k1, k2⟩ := pr_growth l hV (xs (nI (i + 1)).toNatClampNeg) (xs (nI (i + 2)).toNatClampNeg) (xs (nI (i + 3)).toNatClampNeg)
  refine v_aload_n C dL_law_264 rfl rfl ?_
  refine v_aload_n C dL_law_265 rfl rfl ?_
  refine v_iload_n C dL_law_266 rfl rfl ?_
  refine v_iconst (v := 1) C dL_law_267 (by decide) ?_
  refine v_iadd C dL_law_268 ?_
  refine v_tov (y := nI (i + 1)) (nI_add i 1) ?_
  refine v_sld C hX hbl hbA (vp_in_nI (by omega) (by omega)) dL_law_269 ?_
  refine v_aload_n C dL_law_270 rfl rfl ?_
  refine v_iload_n C dL_law_271 rfl rfl ?_
  refine v_iconst (v := 2) C dL_law_272 (by decide) ?_
  refine v_iadd C dL_law_273 ?_
  refine v_tov (y := nI (i + 2)) (nI_add i 2) ?_
  refine v_sld C hX hbl hbA (vp_in_nI (by omega) (by omega)) dL_law_274 ?_
  refine v_aload_n C dL_law_275 rfl rfl ?_
  refine v_iload_n C dL_law_276 rfl rfl ?_
  refine v_iconst (v := 3) C dL_law_277 (by decide) ?_
  refine v_iadd C dL_law_278 ?_
  refine v_tov (y := nI (i + 3)) (nI_add i 3) ?_
  refine v_sld C hX hbl hbA (vp_in_nI (by omega) (by omega)) dL_law_279 ?_
  refine v_callVl C k1 (cwV 3 C.1.2.2.2.2 gL_law_X5_growth rfl rfl rfl (by decide +kernel) ⟨(Nat.le_of_ble_eq_true rfl), (Nat.le_of_ble_eq_true rfl)⟩) 0 6 h5 rfl rfl rfl (Nat.le_of_ble_eq_true rfl) dL_law_280 ⟨show cells + 0 ≤ 600000 by omega, show slots + 0 ≤ 7302250 by omega⟩ (fun r w1 hp => ?_)
  obtain ⟨⟨fs1, h6⟩, k3⟩ := k2 r w1 hp
  refine v_aload_n C dL_law_283 rfl rfl ?_
  refine v_aload_n C dL_law_284 rfl rfl ?_
  refine v_iload_n C dL_law_285 rfl rfl ?_
  refine v_iconst (v := 1) C dL_law_286 (by decide) ?_
  refine v_iadd C dL_law_287 ?_
  refine v_tov (y := nI (i + 1)) (nI_add i 1) ?_
  refine v_sld C hX hbl hbA (vp_in_nI (by omega) (by omega)) dL_law_288 ?_
  refine v_aload_n C dL_law_289 rfl rfl ?_
  refine v_iload_n C dL_law_290 rfl rfl ?_
  refine v_iconst (v := 2) C dL_law_291 (by decide) ?_
  refine v_iadd C dL_law_292 ?_
  refine v_tov (y := nI (i + 2)) (nI_add i 2) ?_
  refine v_sld C hX hbl hbA (vp_in_nI (by omega) (by omega)) dL_law_293 ?_
  refine v_aload_n C dL_law_294 rfl rfl ?_
  refine v_iload_n C dL_law_295 rfl rfl ?_
  refine v_iconst (v := 3) C dL_law_296 (by decide) ?_
  refine v_iadd C dL_law_297 ?_
  refine v_tov (y := nI (i + 3)) (nI_add i 3) ?_
  refine v_sld C hX hbl hbA (vp_in_nI (by omega) (by omega)) dL_law_298 ?_
  refine v_callVl C k3 (cwV 3 C.1.2.2.2.2 gL_law_X6_growth rfl rfl rfl (by decide +kernel) ⟨(Nat.le_of_ble_eq_true rfl), (Nat.le_of_ble_eq_true rfl)⟩) 12 7 h6 rfl rfl rfl (Nat.le_of_ble_eq_true rfl) dL_law_299 ⟨show cells + 0 + 0 ≤ 600000 by omega, show slots + 0 + 0 ≤ 7302250 by omega⟩ (fun r2 w2 hp2 => ?_)
  obtain ⟨hr9, hV2⟩ := hp2
  refine v_lcmp C dL_law_302 ?_
  exact v_if_eq (tgt := 1174) C dL_law_303 (by decide) (fun _ => v_widen (kc := cells + 4) (ks := slots + 6009) (by omega) (by omega) (hK w2 hV2)) (fun c9 => absurd ((lg_cmp_eq _ _).mpr hr9.symm) c9)
set_option maxHeartbeats 4000000 in
set_option maxRecDepth 100000 in
theorem lc_seen {p : Program} {l : Launch} {e : Env} {s : State} {m : MethodId} {below : List Frame} {meth : Method} {c : Code} {Q : State → Prop} {E : gE} {b L : Nat} {xs : Nat → Int32} (C : gC p s m #[Value.ref b] meth c E cL_law 4 wsL_law RL) (hX : va_X b L xs s s.heap) (hbl : b < s.heap.size) (hbA : ¬ gA E b) (hL : L ≤ 2560) {a1 b1 i cells slots : Nat} (hi : i + 5 ≤ L) (hce : cells + 4 ≤ 600000) (hsl : slots + 6009 ≤ 7302250) {zw : va_W} (hV : INV E a1 b1 zw) (hK : ∀ w1 : va_W, INV E a1 b1 w1 → V p l e room_1 s m #[Value.ref b] below meth c E 4 w1 (cells + 4) (slots + 6009) Q 1174 [(0, .ref b), (1, .ref a1), (2, .ref b1), (3, .int (nI i))] []) : V p l e room_1 s m #[Value.ref b] below meth c E 4 zw cells slots Q 308 [(0, .ref b), (1, .ref a1), (2, .ref b1), (3, .int (nI i))] [] := by
  obtain ⟨⟨fs0, h5⟩, Mid, k1, k2⟩ := pr_seen l hV (xs (nI (i + 1)).toNatClampNeg) (xs (nI (i + 2)).toNatClampNeg)
  refine v_aload_n C dL_law_308 rfl rfl ?_
  refine v_aload_n C dL_law_309 rfl rfl ?_
  refine v_iload_n C dL_law_310 rfl rfl ?_
  refine v_iconst (v := 1) C dL_law_311 (by decide) ?_
  refine v_iadd C dL_law_312 ?_
  refine v_tov (y := nI (i + 1)) (nI_add i 1) ?_
  refine v_sld C hX hbl hbA (vp_in_nI (by omega) (by omega)) dL_law_313 ?_
  refine v_aload_n C dL_law_314 rfl rfl ?_
  refine v_iload_n C dL_law_315 rfl rfl ?_
  refine v_iconst (v := 2) C dL_law_316 (by decide) ?_
  refine v_iadd C dL_law_317 ?_
  refine v_tov (y := nI (i + 2)) (nI_add i 2) ?_
  refine v_sld C hX hbl hbA (vp_in_nI (by omega) (by omega)) dL_law_318 ?_
  refine v_callVi C k1 (cwV 2 C.1.2.2.2.2 gL_law_X5_seen rfl rfl rfl (by decide +kernel) ⟨(Nat.le_of_ble_eq_true rfl), (Nat.le_of_ble_eq_true rfl)⟩) 0 6 h5 rfl rfl rfl (Nat.le_of_ble_eq_true rfl) dL_law_319 ⟨show cells + 0 ≤ 600000 by omega, show slots + 0 ≤ 7302250 by omega⟩ (fun r w1 hp => ?_)
  obtain ⟨⟨fs1, h6⟩, k3⟩ := k2 r w1 hp
  refine v_aload_n C dL_law_322 rfl rfl ?_
  refine v_aload_n C dL_law_323 rfl rfl ?_
  refine v_iload_n C dL_law_324 rfl rfl ?_
  refine v_iconst (v := 1) C dL_law_325 (by decide) ?_
  refine v_iadd C dL_law_326 ?_
  refine v_tov (y := nI (i + 1)) (nI_add i 1) ?_
  refine v_sld C hX hbl hbA (vp_in_nI (by omega) (by omega)) dL_law_327 ?_
  refine v_aload_n C dL_law_328 rfl rfl ?_
  refine v_iload_n C dL_law_329 rfl rfl ?_
  refine v_iconst (v := 2) C dL_law_330 (by decide) ?_
  refine v_iadd C dL_law_331 ?_
  refine v_tov (y := nI (i + 2)) (nI_add i 2) ?_
  refine v_sld C hX hbl hbA (vp_in_nI (by omega) (by omega)) dL_law_332 ?_
  refine v_callVi C k3 (cwV 2 C.1.2.2.2.2 gL_law_X6_seen rfl rfl rfl (by decide +kernel) ⟨(Nat.le_of_ble_eq_true rfl), (Nat.le_of_ble_eq_true rfl)⟩) 12 7 h6 rfl rfl rfl (Nat.le_of_ble_eq_true rfl) dL_law_333 ⟨show cells + 0 + 0 ≤ 600000 by omega, show slots + 0 + 0 ≤ 7302250 by omega⟩ (fun r2 w2 hp2 => ?_)
  obtain ⟨hr9, hV2⟩ := hp2
  exact v_icmp_eq (tgt := 1174) C dL_law_336 (by decide) (fun _ => v_widen (kc := cells + 4) (ks := slots + 6009) (by omega) (by omega) (hK w2 hV2)) (fun c9 => absurd hr9.symm c9)
set_option maxHeartbeats 4000000 in
set_option maxRecDepth 100000 in
theorem lc_values {p : Program} {l : Launch} {e : Env} {s : State} {m : MethodId} {below : List Frame} {meth : Method} {c : Code} {Q : State → Prop} {E : gE} {b L : Nat} {xs : Nat → Int32} (C : gC p s m #[Value.ref b] meth c E cL_law 4 wsL_law RL) (hX : va_X b L xs s s.heap) (hbl : b < s.heap.size) (hbA : ¬ gA E b) (hL : L ≤ 2560) {a1 b1 i cells slots : Nat} (hi : i + 5 ≤ L) (hce : cells + 4 ≤ 600000) (hsl : slots + 6009 ≤ 7302250) {zw : va_W} (hV : INV E a1 b1 zw) (hK : ∀ w1 : va_W, INV E a1 b1 w1 → V p l e room_1 s m #[Value.ref b] below meth c E 4 w1 (cells + 4) (slots + 6009) Q 1174 [(0, .ref b), (1, .ref a1), (2, .ref b1), (3, .int (nI i))] []) : V p l e room_1 s m #[Value.ref b] below meth c E 4 zw cells slots Q 341 [(0, .ref b), (1, .ref a1), (2, .ref b1), (3, .int (nI i))] [] := by
  obtain ⟨⟨fs0, h5⟩, Mid, k1, k2⟩ := pr_values l hV (xs (nI (i + 1)).toNatClampNeg) (xs (nI (i + 2)).toNatClampNeg) (xs (nI (i + 3)).toNatClampNeg)
  refine v_aload_n C dL_law_341 rfl rfl ?_
  refine v_aload_n C dL_law_342 rfl rfl ?_
  refine v_iload_n C dL_law_343 rfl rfl ?_
  refine v_iconst (v := 1) C dL_law_344 (by decide) ?_
  refine v_iadd C dL_law_345 ?_
  refine v_tov (y := nI (i + 1)) (nI_add i 1) ?_
  refine v_sld C hX hbl hbA (vp_in_nI (by omega) (by omega)) dL_law_346 ?_
  refine v_aload_n C dL_law_347 rfl rfl ?_
  refine v_iload_n C dL_law_348 rfl rfl ?_
  refine v_iconst (v := 2) C dL_law_349 (by decide) ?_
  refine v_iadd C dL_law_350 ?_
  refine v_tov (y := nI (i + 2)) (nI_add i 2) ?_
  refine v_sld C hX hbl hbA (vp_in_nI (by omega) (by omega)) dL_law_351 ?_
  refine v_aload_n C dL_law_352 rfl rfl ?_
  refine v_iload_n C dL_law_353 rfl rfl ?_
  refine v_iconst (v := 3) C dL_law_354 (by decide) ?_
  refine v_iadd C dL_law_355 ?_
  refine v_tov (y := nI (i + 3)) (nI_add i 3) ?_
  refine v_sld C hX hbl hbA (vp_in_nI (by omega) (by omega)) dL_law_356 ?_
  refine v_callVi C k1 (cwV 3 C.1.2.2.2.2 gL_law_X5_values rfl rfl rfl (by decide +kernel) ⟨(Nat.le_of_ble_eq_true rfl), (Nat.le_of_ble_eq_true rfl)⟩) 0 6 h5 rfl rfl rfl (Nat.le_of_ble_eq_true rfl) dL_law_357 ⟨show cells + 0 ≤ 600000 by omega, show slots + 0 ≤ 7302250 by omega⟩ (fun r w1 hp => ?_)
  obtain ⟨⟨fs1, h6⟩, k3⟩ := k2 r w1 hp
  refine v_aload_n C dL_law_360 rfl rfl ?_
  refine v_aload_n C dL_law_361 rfl rfl ?_
  refine v_iload_n C dL_law_362 rfl rfl ?_
  refine v_iconst (v := 1) C dL_law_363 (by decide) ?_
  refine v_iadd C dL_law_364 ?_
  refine v_tov (y := nI (i + 1)) (nI_add i 1) ?_
  refine v_sld C hX hbl hbA (vp_in_nI (by omega) (by omega)) dL_law_365 ?_
  refine v_aload_n C dL_law_366 rfl rfl ?_
  refine v_iload_n C dL_law_367 rfl rfl ?_
  refine v_iconst (v := 2) C dL_law_368 (by decide) ?_
  refine v_iadd C dL_law_369 ?_
  refine v_tov (y := nI (i + 2)) (nI_add i 2) ?_
  refine v_sld C hX hbl hbA (vp_in_nI (by omega) (by omega)) dL_law_370 ?_
  refine v_aload_n C dL_law_371 rfl rfl ?_
  refine v_iload_n C dL_law_372 rfl rfl ?_
  refine v_iconst (v := 3) C dL_law_373 (by decide) ?_
  refine v_iadd C dL_law_374 ?_
  refine v_tov (y := nI (i + 3)) (nI_add i 3) ?_
  refine v_sld C hX hbl hbA (vp_in_nI (by omega) (by omega)) dL_law_375 ?_
  refine v_callVi C k3 (cwV 3 C.1.2.2.2.2 gL_law_X6_values rfl rfl rfl (by decide +kernel) ⟨(Nat.le_of_ble_eq_true rfl), (Nat.le_of_ble_eq_true rfl)⟩) 12 7 h6 rfl rfl rfl (Nat.le_of_ble_eq_true rfl) dL_law_376 ⟨show cells + 0 + 0 ≤ 600000 by omega, show slots + 0 + 0 ≤ 7302250 by omega⟩ (fun r2 w2 hp2 => ?_)
  obtain ⟨hr9, hV2⟩ := hp2
  exact v_icmp_eq (tgt := 1174) C dL_law_379 (by decide) (fun _ => v_widen (kc := cells + 4) (ks := slots + 6009) (by omega) (by omega) (hK w2 hV2)) (fun c9 => absurd hr9.symm c9)
set_option maxHeartbeats 4000000 in
set_option maxRecDepth 100000 in
theorem lc_unlike {p : Program} {l : Launch} {e : Env} {s : State} {m : MethodId} {below : List Frame} {meth : Method} {c : Code} {Q : State → Prop} {E : gE} {b L : Nat} {xs : Nat → Int32} (C : gC p s m #[Value.ref b] meth c E cL_law 4 wsL_law RL) (hX : va_X b L xs s s.heap) (hbl : b < s.heap.size) (hbA : ¬ gA E b) (hL : L ≤ 2560) {a1 b1 i cells slots : Nat} (hi : i + 5 ≤ L) (hce : cells + 4 ≤ 600000) (hsl : slots + 6009 ≤ 7302250) {zw : va_W} (hV : INV E a1 b1 zw) (hK : ∀ w1 : va_W, INV E a1 b1 w1 → V p l e room_1 s m #[Value.ref b] below meth c E 4 w1 (cells + 4) (slots + 6009) Q 1174 [(0, .ref b), (1, .ref a1), (2, .ref b1), (3, .int (nI i))] []) : V p l e room_1 s m #[Value.ref b] below meth c E 4 zw cells slots Q 384 [(0, .ref b), (1, .ref a1), (2, .ref b1), (3, .int (nI i))] [] := by
  obtain ⟨⟨fs0, h5⟩, Mid, k1, k2⟩ := pr_unlike l hV (xs (nI (i + 1)).toNatClampNeg) (xs (nI (i + 2)).toNatClampNeg) (xs (nI (i + 3)).toNatClampNeg)
  refine v_aload_n C dL_law_384 rfl rfl ?_
  refine v_aload_n C dL_law_385 rfl rfl ?_
  refine v_iload_n C dL_law_386 rfl rfl ?_
  refine v_iconst (v := 1) C dL_law_387 (by decide) ?_
  refine v_iadd C dL_law_388 ?_
  refine v_tov (y := nI (i + 1)) (nI_add i 1) ?_
  refine v_sld C hX hbl hbA (vp_in_nI (by omega) (by omega)) dL_law_389 ?_
  refine v_aload_n C dL_law_390 rfl rfl ?_
  refine v_iload_n C dL_law_391 rfl rfl ?_
  refine v_iconst (v := 2) C dL_law_392 (by decide) ?_
  refine v_iadd C dL_law_393 ?_
  refine v_tov (y := nI (i + 2)) (nI_add i 2) ?_
  refine v_sld C hX hbl hbA (vp_in_nI (by omega) (by omega)) dL_law_394 ?_
  refine v_aload_n C dL_law_395 rfl rfl ?_
  refine v_iload_n C dL_law_396 rfl rfl ?_
  refine v_iconst (v := 3) C dL_law_397 (by decide) ?_
  refine v_iadd C dL_law_398 ?_
  refine v_tov (y := nI (i + 3)) (nI_add i 3) ?_
  refine v_sld C hX hbl hbA (vp_in_nI (by omega) (by omega)) dL_law_399 ?_
  refine v_callVi C k1 (cwV 3 C.1.2.2.2.2 gL_law_X5_unlike rfl rfl rfl (by decide +kernel) ⟨(Nat.le_of_ble_eq_true rfl), (Nat.le_of_ble_eq_true rfl)⟩) 0 6 h5 rfl rfl rfl (Nat.le_of_ble_eq_true rfl) dL_law_400 ⟨show cells + 0 ≤ 600000 by omega, show slots + 0 ≤ 7302250 by omega⟩ (fun r w1 hp => ?_)
  obtain ⟨⟨fs1, h6⟩, k3⟩ := k2 r w1 hp
  refine v_aload_n C dL_law_403 rfl rfl ?_
  refine v_aload_n C dL_law_404 rfl rfl ?_
  refine v_iload_n C dL_law_405 rfl rfl ?_
  refine v_iconst (v := 1) C dL_law_406 (by decide) ?_
  refine v_iadd C dL_law_407 ?_
  refine v_tov (y := nI (i + 1)) (nI_add i 1) ?_
  refine v_sld C hX hbl hbA (vp_in_nI (by omega) (by omega)) dL_law_408 ?_
  refine v_aload_n C dL_law_409 rfl rfl ?_
  refine v_iload_n C dL_law_410 rfl rfl ?_
  refine v_iconst (v := 2) C dL_law_411 (by decide) ?_
  refine v_iadd C dL_law_412 ?_
  refine v_tov (y := nI (i + 2)) (nI_add i 2) ?_
  refine v_sld C hX hbl hbA (vp_in_nI (by omega) (by omega)) dL_law_413 ?_
  refine v_aload_n C dL_law_414 rfl rfl ?_
  refine v_iload_n C dL_law_415 rfl rfl ?_
  refine v_iconst (v := 3) C dL_law_416 (by decide) ?_
  refine v_iadd C dL_law_417 ?_
  refine v_tov (y := nI (i + 3)) (nI_add i 3) ?_
  refine v_sld C hX hbl hbA (vp_in_nI (by omega) (by omega)) dL_law_418 ?_
  refine v_callVi C k3 (cwV 3 C.1.2.2.2.2 gL_law_X6_unlike rfl rfl rfl (by decide +kernel) ⟨(Nat.le_of_ble_eq_true rfl), (Nat.le_of_ble_eq_true rfl)⟩) 12 7 h6 rfl rfl rfl (Nat.le_of_ble_eq_true rfl) dL_law_419 ⟨show cells + 0 + 0 ≤ 600000 by omega, show slots + 0 + 0 ≤ 7302250 by omega⟩ (fun r2 w2 hp2 => ?_)
  obtain ⟨hr9, hV2⟩ := hp2
  exact v_icmp_eq (tgt := 1174) C dL_law_422 (by decide) (fun _ => v_widen (kc := cells + 4) (ks := slots + 6009) (by omega) (by omega) (hK w2 hV2)) (fun c9 => absurd hr9.symm c9)
set_option maxHeartbeats 4000000 in
set_option maxRecDepth 100000 in
theorem lc_kept {p : Program} {l : Launch} {e : Env} {s : State} {m : MethodId} {below : List Frame} {meth : Method} {c : Code} {Q : State → Prop} {E : gE} {b L : Nat} {xs : Nat → Int32} (C : gC p s m #[Value.ref b] meth c E cL_law 4 wsL_law RL) (hX : va_X b L xs s s.heap) (hbl : b < s.heap.size) (hbA : ¬ gA E b) (hL : L ≤ 2560) {a1 b1 i cells slots : Nat} (hi : i + 5 ≤ L) (hce : cells + 4 ≤ 600000) (hsl : slots + 6009 ≤ 7302250) {zw : va_W} (hV : INV E a1 b1 zw) (hK : ∀ w1 : va_W, INV E a1 b1 w1 → V p l e room_1 s m #[Value.ref b] below meth c E 4 w1 (cells + 4) (slots + 6009) Q 1174 [(0, .ref b), (1, .ref a1), (2, .ref b1), (3, .int (nI i))] []) : V p l e room_1 s m #[Value.ref b] below meth c E 4 zw cells slots Q 427 [(0, .ref b), (1, .ref a1), (2, .ref b1), (3, .int (nI i))] [] := by
  obtain ⟨⟨fs0, h5⟩, Mid, k1, k2⟩ := pr_kept l hV (xs (nI (i + 1)).toNatClampNeg) (xs (nI (i + 2)).toNatClampNeg)
  refine v_aload_n C dL_law_427 rfl rfl ?_
  refine v_aload_n C dL_law_428 rfl rfl ?_
  refine v_iload_n C dL_law_429 rfl rfl ?_
  refine v_iconst (v := 1) C dL_law_430 (by decide) ?_
  refine v_iadd C dL_law_431 ?_
  refine v_tov (y := nI (i + 1)) (nI_add i 1) ?_
  refine v_sld C hX hbl hbA (vp_in_nI (by omega) (by omega)) dL_law_432 ?_
  refine v_aload_n C dL_law_433 rfl rfl ?_
  refine v_iload_n C dL_law_434 rfl rfl ?_
  refine v_iconst (v := 2) C dL_law_435 (by decide) ?_
  refine v_iadd C dL_law_436 ?_
  refine v_tov (y := nI (i + 2)) (nI_add i 2) ?_
  refine v_sld C hX hbl hbA (vp_in_nI (by omega) (by omega)) dL_law_437 ?_
  refine v_callVi C k1 (cwV 2 C.1.2.2.2.2 gL_law_X5_kept rfl rfl rfl (by decide +kernel) ⟨(Nat.le_of_ble_eq_true rfl), (Nat.le_of_ble_eq_true rfl)⟩) 0 6 h5 rfl rfl rfl (Nat.le_of_ble_eq_true rfl) dL_law_438 ⟨show cells + 0 ≤ 600000 by omega, show slots + 0 ≤ 7302250 by omega⟩ (fun r w1 hp => ?_)
  obtain ⟨⟨fs1, h6⟩, k3⟩ := k2 r w1 hp
  refine v_aload_n C dL_law_441 rfl rfl ?_
  refine v_aload_n C dL_law_442 rfl rfl ?_
  refine v_iload_n C dL_law_443 rfl rfl ?_
  refine v_iconst (v := 1) C dL_law_444 (by decide) ?_
  refine v_iadd C dL_law_445 ?_
  refine v_tov (y := nI (i + 1)) (nI_add i 1) ?_
  refine v_sld C hX hbl hbA (vp_in_nI (by omega) (by omega)) dL_law_446 ?_
  refine v_aload_n C dL_law_447 rfl rfl ?_
  refine v_iload_n C dL_law_448 rfl rfl ?_
  refine v_iconst (v := 2) C dL_law_449 (by decide) ?_
  refine v_iadd C dL_law_450 ?_
  refine v_tov (y := nI (i + 2)) (nI_add i 2) ?_
  refine v_sld C hX hbl hbA (vp_in_nI (by omega) (by omega)) dL_law_451 ?_
  refine v_callVi C k3 (cwV 2 C.1.2.2.2.2 gL_law_X6_kept rfl rfl rfl (by decide +kernel) ⟨(Nat.le_of_ble_eq_true rfl), (Nat.le_of_ble_eq_true rfl)⟩) 12 7 h6 rfl rfl rfl (Nat.le_of_ble_eq_true rfl) dL_law_452 ⟨show cells + 0 + 0 ≤ 600000 by omega, show slots + 0 + 0 ≤ 7302250 by omega⟩ (fun r2 w2 hp2 => ?_)
  obtain ⟨hr9, hV2⟩ := hp2
  exact v_icmp_eq (tgt := 1174) C dL_law_455 (by decide) (fun _ => v_widen (kc := cells + 4) (ks := slots + 6009) (by omega) (by omega) (hK w2 hV2)) (fun c9 => absurd hr9.symm c9)
set_option maxHeartbeats 4000000 in
set_option maxRecDepth 100000 in
theorem lc_worst {p : Program} {l : Launch} {e : Env} {s : State} {m : MethodId} {below : List Frame} {meth : Method} {c : Code} {Q : State → Prop} {E : gE} {b L : Nat} {xs : Nat → Int32} (C : gC p s m #[Value.ref b] meth c E cL_law 4 wsL_law RL) (hX : va_X b L xs s s.heap) (hbl : b < s.heap.size) (hbA : ¬ gA E b) (hL : L ≤ 2560) {a1 b1 i cells slots : Nat} (hi : i + 5 ≤ L) (hce : cells + 4 ≤ 600000) (hsl : slots + 6009 ≤ 7302250) {zw : va_W} (hV : INV E a1 b1 zw) (hK : ∀ w1 : va_W, INV E a1 b1 w1 → V p l e room_1 s m #[Value.ref b] below meth c E 4 w1 (cells + 4) (slots + 6009) Q 1174 [(0, .ref b), (1, .ref a1), (2, .ref b1), (3, .int (nI i))] []) : V p l e room_1 s m #[Value.ref b] below meth c E 4 zw cells slots Q 460 [(0, .ref b), (1, .ref a1), (2, .ref b1), (3, .int (nI i))] [] := by
  obtain ⟨⟨fs0, h5⟩, Mid, k1, k2⟩ := pr_worst l hV (xs (nI (i + 1)).toNatClampNeg) (xs (nI (i + 2)).toNatClampNeg)
  refine v_aload_n C dL_law_460 rfl rfl ?_
  refine v_aload_n C dL_law_461 rfl rfl ?_
  refine v_iload_n C dL_law_462 rfl rfl ?_
  refine v_iconst (v := 1) C dL_law_463 (by decide) ?_
  refine v_iadd C dL_law_464 ?_
  refine v_tov (y := nI (i + 1)) (nI_add i 1) ?_
  refine v_sld C hX hbl hbA (vp_in_nI (by omega) (by omega)) dL_law_465 ?_
  refine v_aload_n C dL_law_466 rfl rfl ?_
  refine v_iload_n C dL_law_467 rfl rfl ?_
  refine v_iconst (v := 2) C dL_law_468 (by decide) ?_
  refine v_iadd C dL_law_469 ?_
  refine v_tov (y := nI (i + 2)) (nI_add i 2) ?_
  refine v_sld C hX hbl hbA (vp_in_nI (by omega) (by omega)) dL_law_470 ?_
  refine v_callVi C k1 (cwV 2 C.1.2.2.2.2 gL_law_X5_worst rfl rfl rfl (by decide +kernel) ⟨(Nat.le_of_ble_eq_true rfl), (Nat.le_of_ble_eq_true rfl)⟩) 0 6 h5 rfl rfl rfl (Nat.le_of_ble_eq_true rfl) dL_law_471 ⟨show cells + 0 ≤ 600000 by omega, show slots + 0 ≤ 7302250 by omega⟩ (fun r w1 hp => ?_)
  obtain ⟨⟨fs1, h6⟩, k3⟩ := k2 r w1 hp
  refine v_aload_n C dL_law_474 rfl rfl ?_
  refine v_aload_n C dL_law_475 rfl rfl ?_
  refine v_iload_n C dL_law_476 rfl rfl ?_
  refine v_iconst (v := 1) C dL_law_477 (by decide) ?_
  refine v_iadd C dL_law_478 ?_
  refine v_tov (y := nI (i + 1)) (nI_add i 1) ?_
  refine v_sld C hX hbl hbA (vp_in_nI (by omega) (by omega)) dL_law_479 ?_
  refine v_aload_n C dL_law_480 rfl rfl ?_
  refine v_iload_n C dL_law_481 rfl rfl ?_
  refine v_iconst (v := 2) C dL_law_482 (by decide) ?_
  refine v_iadd C dL_law_483 ?_
  refine v_tov (y := nI (i + 2)) (nI_add i 2) ?_
  refine v_sld C hX hbl hbA (vp_in_nI (by omega) (by omega)) dL_law_484 ?_
  refine v_callVi C k3 (cwV 2 C.1.2.2.2.2 gL_law_X6_worst rfl rfl rfl (by decide +kernel) ⟨(Nat.le_of_ble_eq_true rfl), (Nat.le_of_ble_eq_true rfl)⟩) 12 7 h6 rfl rfl rfl (Nat.le_of_ble_eq_true rfl) dL_law_485 ⟨show cells + 0 + 0 ≤ 600000 by omega, show slots + 0 + 0 ≤ 7302250 by omega⟩ (fun r2 w2 hp2 => ?_)
  obtain ⟨hr9, hV2⟩ := hp2
  exact v_icmp_eq (tgt := 1174) C dL_law_488 (by decide) (fun _ => v_widen (kc := cells + 4) (ks := slots + 6009) (by omega) (by omega) (hK w2 hV2)) (fun c9 => absurd hr9.symm c9)
set_option maxHeartbeats 4000000 in
set_option maxRecDepth 100000 in
theorem lc_drop {p : Program} {l : Launch} {e : Env} {s : State} {m : MethodId} {below : List Frame} {meth : Method} {c : Code} {Q : State → Prop} {E : gE} {b L : Nat} {xs : Nat → Int32} (C : gC p s m #[Value.ref b] meth c E cL_law 4 wsL_law RL) (hX : va_X b L xs s s.heap) (hbl : b < s.heap.size) (hbA : ¬ gA E b) (hL : L ≤ 2560) {a1 b1 i cells slots : Nat} (hi : i + 5 ≤ L) (hce : cells + 4 ≤ 600000) (hsl : slots + 6009 ≤ 7302250) {zw : va_W} (hV : INV E a1 b1 zw) (hK : ∀ w1 : va_W, INV E a1 b1 w1 → V p l e room_1 s m #[Value.ref b] below meth c E 4 w1 (cells + 4) (slots + 6009) Q 1174 [(0, .ref b), (1, .ref a1), (2, .ref b1), (3, .int (nI i))] []) : V p l e room_1 s m #[Value.ref b] below meth c E 4 zw cells slots Q 493 [(0, .ref b), (1, .ref a1), (2, .ref b1), (3, .int (nI i))] [] := by
  by_cases h0 : (xs (nI (i + 2)).toNatClampNeg) = 0
  · obtain ⟨⟨fs0, h5⟩, Mid, k1, k2⟩ := pr_drop l hV (xs (nI (i + 1)).toNatClampNeg) 0 (Or.inl rfl)
    refine v_aload_n C dL_law_493 rfl rfl ?_
    refine v_aload_n C dL_law_494 rfl rfl ?_
    refine v_iload_n C dL_law_495 rfl rfl ?_
    refine v_iconst (v := 1) C dL_law_496 (by decide) ?_
    refine v_iadd C dL_law_497 ?_
    refine v_tov (y := nI (i + 1)) (nI_add i 1) ?_
    refine v_sld C hX hbl hbA (vp_in_nI (by omega) (by omega)) dL_law_498 ?_
    refine v_aload_n C dL_law_499 rfl rfl ?_
    refine v_iload_n C dL_law_500 rfl rfl ?_
    refine v_iconst (v := 2) C dL_law_501 (by decide) ?_
    refine v_iadd C dL_law_502 ?_
    refine v_tov (y := nI (i + 2)) (nI_add i 2) ?_
    refine v_sld C hX hbl hbA (vp_in_nI (by omega) (by omega)) dL_law_503 ?_
    refine v_if_eq (tgt := 511) C dL_law_504 (by decide) (fun c504 => ?_) (fun c504 => absurd h0 c504)
    refine v_iconst (v := 0) C dL_law_511 (by decide) ?_
    refine v_callVi C k1 (cwV 2 C.1.2.2.2.2 gL_law_X5_drop rfl rfl rfl (by decide +kernel) ⟨(Nat.le_of_ble_eq_true rfl), (Nat.le_of_ble_eq_true rfl)⟩) 0 6 h5 rfl rfl rfl (Nat.le_of_ble_eq_true rfl) dL_law_512 ⟨show cells + 0 ≤ 600000 by omega, show slots + 0 ≤ 7302250 by omega⟩ (fun r w1 hp => ?_)
    obtain ⟨⟨fs1, h6⟩, k3⟩ := k2 r w1 hp
    refine v_aload_n C dL_law_515 rfl rfl ?_
    refine v_aload_n C dL_law_516 rfl rfl ?_
    refine v_iload_n C dL_law_517 rfl rfl ?_
    refine v_iconst (v := 1) C dL_law_518 (by decide) ?_
    refine v_iadd C dL_law_519 ?_
    refine v_tov (y := nI (i + 1)) (nI_add i 1) ?_
    refine v_sld C hX hbl hbA (vp_in_nI (by omega) (by omega)) dL_law_520 ?_
    refine v_aload_n C dL_law_521 rfl rfl ?_
    refine v_iload_n C dL_law_522 rfl rfl ?_
    refine v_iconst (v := 2) C dL_law_523 (by decide) ?_
    refine v_iadd C dL_law_524 ?_
    refine v_tov (y := nI (i + 2)) (nI_add i 2) ?_
    refine v_sld C hX hbl hbA (vp_in_nI (by omega) (by omega)) dL_law_525 ?_
    refine v_if_eq (tgt := 533) C dL_law_526 (by decide) (fun c526 => ?_) (fun c526 => absurd h0 c526)
    refine v_iconst (v := 0) C dL_law_533 (by decide) ?_
    refine v_callVi C k3 (cwV 2 C.1.2.2.2.2 gL_law_X6_drop rfl rfl rfl (by decide +kernel) ⟨(Nat.le_of_ble_eq_true rfl), (Nat.le_of_ble_eq_true rfl)⟩) 12 7 h6 rfl rfl rfl (Nat.le_of_ble_eq_true rfl) dL_law_534 ⟨show cells + 0 + 0 ≤ 600000 by omega, show slots + 0 + 0 ≤ 7302250 by omega⟩ (fun r2 w2 hp2 => ?_)
    obtain ⟨hr9, hV2⟩ := hp2
    exact v_icmp_eq (tgt := 1174) C dL_law_537 (by decide) (fun _ => v_widen (kc := cells + 4) (ks := slots + 6009) (by omega) (by omega) (hK w2 hV2)) (fun c9 => absurd hr9.symm c9)
  · obtain ⟨⟨fs0, h5⟩, Mid, k1, k2⟩ := pr_drop l hV (xs (nI (i + 1)).toNatClampNeg) 1 (Or.inr rfl)
    refine v_aload_n C dL_law_493 rfl rfl ?_
    refine v_aload_n C dL_law_494 rfl rfl ?_
    refine v_iload_n C dL_law_495 rfl rfl ?_
    refine v_iconst (v := 1) C dL_law_496 (by decide) ?_
    refine v_iadd C dL_law_497 ?_
    refine v_tov (y := nI (i + 1)) (nI_add i 1) ?_
    refine v_sld C hX hbl hbA (vp_in_nI (by omega) (by omega)) dL_law_498 ?_
    refine v_aload_n C dL_law_499 rfl rfl ?_
    refine v_iload_n C dL_law_500 rfl rfl ?_
    refine v_iconst (v := 2) C dL_law_501 (by decide) ?_
    refine v_iadd C dL_law_502 ?_
    refine v_tov (y := nI (i + 2)) (nI_add i 2) ?_
    refine v_sld C hX hbl hbA (vp_in_nI (by omega) (by omega)) dL_law_503 ?_
    refine v_if_eq (tgt := 511) C dL_law_504 (by decide) (fun c504 => absurd c504 h0) (fun c504 => ?_)
    refine v_iconst (v := 1) C dL_law_507 (by decide) ?_
    refine v_goto (tgt := 512) C dL_law_508 (by decide) ?_
    refine v_callVi C k1 (cwV 2 C.1.2.2.2.2 gL_law_X5_drop rfl rfl rfl (by decide +kernel) ⟨(Nat.le_of_ble_eq_true rfl), (Nat.le_of_ble_eq_true rfl)⟩) 0 6 h5 rfl rfl rfl (Nat.le_of_ble_eq_true rfl) dL_law_512 ⟨show cells + 0 ≤ 600000 by omega, show slots + 0 ≤ 7302250 by omega⟩ (fun r w1 hp => ?_)
    obtain ⟨⟨fs1, h6⟩, k3⟩ := k2 r w1 hp
    refine v_aload_n C dL_law_515 rfl rfl ?_
    refine v_aload_n C dL_law_516 rfl rfl ?_
    refine v_iload_n C dL_law_517 rfl rfl ?_
    refine v_iconst (v := 1) C dL_law_518 (by decide) ?_
    refine v_iadd C dL_law_519 ?_
    refine v_tov (y := nI (i + 1)) (nI_add i 1) ?_
    refine v_sld C hX hbl hbA (vp_in_nI (by omega) (by omega)) dL_law_520 ?_
    refine v_aload_n C dL_law_521 rfl rfl ?_
    refine v_iload_n C dL_law_522 rfl rfl ?_
    refine v_iconst (v := 2) C dL_law_523 (by decide) ?_
    refine v_iadd C dL_law_524 ?_
    refine v_tov (y := nI (i + 2)) (nI_add i 2) ?_
    refine v_sld C hX hbl hbA (vp_in_nI (by omega) (by omega)) dL_law_525 ?_
    refine v_if_eq (tgt := 533) C dL_law_526 (by decide) (fun c526 => absurd c526 h0) (fun c526 => ?_)
    refine v_iconst (v := 1) C dL_law_529 (by decide) ?_
    refine v_goto (tgt := 534) C dL_law_530 (by decide) ?_
    refine v_callVi C k3 (cwV 2 C.1.2.2.2.2 gL_law_X6_drop rfl rfl rfl (by decide +kernel) ⟨(Nat.le_of_ble_eq_true rfl), (Nat.le_of_ble_eq_true rfl)⟩) 12 7 h6 rfl rfl rfl (Nat.le_of_ble_eq_true rfl) dL_law_534 ⟨show cells + 0 + 0 ≤ 600000 by omega, show slots + 0 + 0 ≤ 7302250 by omega⟩ (fun r2 w2 hp2 => ?_)
    obtain ⟨hr9, hV2⟩ := hp2
    exact v_icmp_eq (tgt := 1174) C dL_law_537 (by decide) (fun _ => v_widen (kc := cells + 4) (ks := slots + 6009) (by omega) (by omega) (hK w2 hV2)) (fun c9 => absurd hr9.symm c9)
set_option maxHeartbeats 4000000 in
set_option maxRecDepth 100000 in
theorem lc_fold {p : Program} {l : Launch} {e : Env} {s : State} {m : MethodId} {below : List Frame} {meth : Method} {c : Code} {Q : State → Prop} {E : gE} {b L : Nat} {xs : Nat → Int32} (C : gC p s m #[Value.ref b] meth c E cL_law 4 wsL_law RL) (hX : va_X b L xs s s.heap) (hbl : b < s.heap.size) (hbA : ¬ gA E b) (hL : L ≤ 2560) {a1 b1 i cells slots : Nat} (hi : i + 5 ≤ L) (hce : cells + 4 ≤ 600000) (hsl : slots + 6009 ≤ 7302250) {zw : va_W} (hV : INV E a1 b1 zw) (hK : ∀ w1 : va_W, INV E a1 b1 w1 → V p l e room_1 s m #[Value.ref b] below meth c E 4 w1 (cells + 4) (slots + 6009) Q 1174 [(0, .ref b), (1, .ref a1), (2, .ref b1), (3, .int (nI i))] []) : V p l e room_1 s m #[Value.ref b] below meth c E 4 zw cells slots Q 542 [(0, .ref b), (1, .ref a1), (2, .ref b1), (3, .int (nI i))] [] := by
  obtain ⟨⟨fs0, h5⟩, Mid, k1, k2⟩ := pr_fold l hV (xs (nI (i + 1)).toNatClampNeg) (xs (nI (i + 2)).toNatClampNeg) (xs (nI (i + 3)).toNatClampNeg)
  refine v_aload_n C dL_law_542 rfl rfl ?_
  refine v_aload_n C dL_law_543 rfl rfl ?_
  refine v_iload_n C dL_law_544 rfl rfl ?_
  refine v_iconst (v := 1) C dL_law_545 (by decide) ?_
  refine v_iadd C dL_law_546 ?_
  refine v_tov (y := nI (i + 1)) (nI_add i 1) ?_
  refine v_sld C hX hbl hbA (vp_in_nI (by omega) (by omega)) dL_law_547 ?_
  refine v_aload_n C dL_law_548 rfl rfl ?_
  refine v_iload_n C dL_law_549 rfl rfl ?_
  refine v_iconst (v := 2) C dL_law_550 (by decide) ?_
  refine v_iadd C dL_law_551 ?_
  refine v_tov (y := nI (i + 2)) (nI_add i 2) ?_
  refine v_sld C hX hbl hbA (vp_in_nI (by omega) (by omega)) dL_law_552 ?_
  refine v_aload_n C dL_law_553 rfl rfl ?_
  refine v_iload_n C dL_law_554 rfl rfl ?_
  refine v_iconst (v := 3) C dL_law_555 (by decide) ?_
  refine v_iadd C dL_law_556 ?_
  refine v_tov (y := nI (i + 3)) (nI_add i 3) ?_
  refine v_sld C hX hbl hbA (vp_in_nI (by omega) (by omega)) dL_law_557 ?_
  refine v_callVi C k1 (cwV 3 C.1.2.2.2.2 gL_law_X5_fold rfl rfl rfl (by decide +kernel) ⟨(Nat.le_of_ble_eq_true rfl), (Nat.le_of_ble_eq_true rfl)⟩) 0 6 h5 rfl rfl rfl (Nat.le_of_ble_eq_true rfl) dL_law_558 ⟨show cells + 0 ≤ 600000 by omega, show slots + 0 ≤ 7302250 by omega⟩ (fun r w1 hp => ?_)
  obtain ⟨⟨fs1, h6⟩, k3⟩ := k2 r w1 hp
  refine v_aload_n C dL_law_561 rfl rfl ?_
  refine v_aload_n C dL_law_562 rfl rfl ?_
  refine v_iload_n C dL_law_563 rfl rfl ?_
  refine v_iconst (v := 1) C dL_law_564 (by decide) ?_
  refine v_iadd C dL_law_565 ?_
  refine v_tov (y := nI (i + 1)) (nI_add i 1) ?_
  refine v_sld C hX hbl hbA (vp_in_nI (by omega) (by omega)) dL_law_566 ?_
  refine v_aload_n C dL_law_567 rfl rfl ?_
  refine v_iload_n C dL_law_568 rfl rfl ?_
  refine v_iconst (v := 2) C dL_law_569 (by decide) ?_
  refine v_iadd C dL_law_570 ?_
  refine v_tov (y := nI (i + 2)) (nI_add i 2) ?_
  refine v_sld C hX hbl hbA (vp_in_nI (by omega) (by omega)) dL_law_571 ?_
  refine v_aload_n C dL_law_572 rfl rfl ?_
  refine v_iload_n C dL_law_573 rfl rfl ?_
  refine v_iconst (v := 3) C dL_law_574 (by decide) ?_
  refine v_iadd C dL_law_575 ?_
  refine v_tov (y := nI (i + 3)) (nI_add i 3) ?_
  refine v_sld C hX hbl hbA (vp_in_nI (by omega) (by omega)) dL_law_576 ?_
  refine v_callVi C k3 (cwV 3 C.1.2.2.2.2 gL_law_X6_fold rfl rfl rfl (by decide +kernel) ⟨(Nat.le_of_ble_eq_true rfl), (Nat.le_of_ble_eq_true rfl)⟩) 12 7 h6 rfl rfl rfl (Nat.le_of_ble_eq_true rfl) dL_law_577 ⟨show cells + 0 + 0 ≤ 600000 by omega, show slots + 0 + 0 ≤ 7302250 by omega⟩ (fun r2 w2 hp2 => ?_)
  obtain ⟨hr9, hV2⟩ := hp2
  exact v_icmp_eq (tgt := 1174) C dL_law_580 (by decide) (fun _ => v_widen (kc := cells + 4) (ks := slots + 6009) (by omega) (by omega) (hK w2 hV2)) (fun c9 => absurd hr9.symm c9)
set_option maxHeartbeats 4000000 in
set_option maxRecDepth 100000 in
theorem lc_dropped {p : Program} {l : Launch} {e : Env} {s : State} {m : MethodId} {below : List Frame} {meth : Method} {c : Code} {Q : State → Prop} {E : gE} {b L : Nat} {xs : Nat → Int32} (C : gC p s m #[Value.ref b] meth c E cL_law 4 wsL_law RL) (hX : va_X b L xs s s.heap) (hbl : b < s.heap.size) (hbA : ¬ gA E b) (hL : L ≤ 2560) {a1 b1 i cells slots : Nat} (hi : i + 5 ≤ L) (hce : cells + 4 ≤ 600000) (hsl : slots + 6009 ≤ 7302250) {zw : va_W} (hV : INV E a1 b1 zw) (hK : ∀ w1 : va_W, INV E a1 b1 w1 → V p l e room_1 s m #[Value.ref b] below meth c E 4 w1 (cells + 4) (slots + 6009) Q 1174 [(0, .ref b), (1, .ref a1), (2, .ref b1), (3, .int (nI i))] []) : V p l e room_1 s m #[Value.ref b] below meth c E 4 zw cells slots Q 585 [(0, .ref b), (1, .ref a1), (2, .ref b1), (3, .int (nI i))] [] := by
  obtain ⟨⟨fs0, h5⟩, Mid, k1, k2⟩ := pr_dropped l hV (xs (nI (i + 1)).toNatClampNeg) (xs (nI (i + 2)).toNatClampNeg)
  refine v_aload_n C dL_law_585 rfl rfl ?_
  refine v_aload_n C dL_law_586 rfl rfl ?_
  refine v_iload_n C dL_law_587 rfl rfl ?_
  refine v_iconst (v := 1) C dL_law_588 (by decide) ?_
  refine v_iadd C dL_law_589 ?_
  refine v_tov (y := nI (i + 1)) (nI_add i 1) ?_
  refine v_sld C hX hbl hbA (vp_in_nI (by omega) (by omega)) dL_law_590 ?_
  refine v_aload_n C dL_law_591 rfl rfl ?_
  refine v_iload_n C dL_law_592 rfl rfl ?_
  refine v_iconst (v := 2) C dL_law_593 (by decide) ?_
  refine v_iadd C dL_law_594 ?_
  refine v_tov (y := nI (i + 2)) (nI_add i 2) ?_
  refine v_sld C hX hbl hbA (vp_in_nI (by omega) (by omega)) dL_law_595 ?_
  refine v_callVi C k1 (cwV 2 C.1.2.2.2.2 gL_law_X5_dropped rfl rfl rfl (by decide +kernel) ⟨(Nat.le_of_ble_eq_true rfl), (Nat.le_of_ble_eq_true rfl)⟩) 0 6 h5 rfl rfl rfl (Nat.le_of_ble_eq_true rfl) dL_law_596 ⟨show cells + 0 ≤ 600000 by omega, show slots + 0 ≤ 7302250 by omega⟩ (fun r w1 hp => ?_)
  obtain ⟨⟨fs1, h6⟩, k3⟩ := k2 r w1 hp
  refine v_aload_n C dL_law_599 rfl rfl ?_
  refine v_aload_n C dL_law_600 rfl rfl ?_
  refine v_iload_n C dL_law_601 rfl rfl ?_
  refine v_iconst (v := 1) C dL_law_602 (by decide) ?_
  refine v_iadd C dL_law_603 ?_
  refine v_tov (y := nI (i + 1)) (nI_add i 1) ?_
  refine v_sld C hX hbl hbA (vp_in_nI (by omega) (by omega)) dL_law_604 ?_
  refine v_aload_n C dL_law_605 rfl rfl ?_
  refine v_iload_n C dL_law_606 rfl rfl ?_
  refine v_iconst (v := 2) C dL_law_607 (by decide) ?_
  refine v_iadd C dL_law_608 ?_
  refine v_tov (y := nI (i + 2)) (nI_add i 2) ?_
  refine v_sld C hX hbl hbA (vp_in_nI (by omega) (by omega)) dL_law_609 ?_
  refine v_callVi C k3 (cwV 2 C.1.2.2.2.2 gL_law_X6_dropped rfl rfl rfl (by decide +kernel) ⟨(Nat.le_of_ble_eq_true rfl), (Nat.le_of_ble_eq_true rfl)⟩) 12 7 h6 rfl rfl rfl (Nat.le_of_ble_eq_true rfl) dL_law_610 ⟨show cells + 0 + 0 ≤ 600000 by omega, show slots + 0 + 0 ≤ 7302250 by omega⟩ (fun r2 w2 hp2 => ?_)
  obtain ⟨hr9, hV2⟩ := hp2
  exact v_icmp_eq (tgt := 1174) C dL_law_613 (by decide) (fun _ => v_widen (kc := cells + 4) (ks := slots + 6009) (by omega) (by omega) (hK w2 hV2)) (fun c9 => absurd hr9.symm c9)
