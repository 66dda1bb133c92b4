/-! the law's cases -/
section XZ
variable {p : Program} {l : Launch} {e : Env} {s : State} {m : MethodId} {args : Array Value} {below : List Frame} {meth : Method} {c : Code} {H : Heap} {locs : List Loc} {Q : State → Prop}
variable {ls : Array Slot} {D : va_G} {cI : ClassId} {sb mo : Nat} {A : Nat → Prop} {H0 : Heap} {b L : Nat} {xs : Nat → Int32} {i : Int}
theorem lc_field (jS : CallFix p m c cL_law 4 s args wsL_law RL) (hl : lv_has ls 4 [(3, .int (iI i)), (2, .ref mo), (1, .ref sb), (0, .ref b)]) (hK : xK D cI s) (hX : va_X b L xs s H0) (hbl : b < H0.size) (hbA : ¬ A b) (hA : ∀ q, H0.size ≤ q → A q) (hL : L ≤ 3072) (hi : 0 ≤ i ∧ i + 6 ≤ L) (hR : lwR D cI A H0 sb mo H locs) (kk : ∀ (H1 : Heap) (L1 : List Loc), lwR D cI A H0 sb mo H1 L1 → W p l e room_1 s m args below meth c H1 L1 66 2220 Q (F0 m 665 ls [])) : W p l e room_1 s m args below meth c H locs 66 2220 Q (F0 m 120 ls []) := by
  obtain ⟨P, sh, sc, k1, n1, k2, n2, cnt, ak, tr, pt1, pt2, row, wc, wm, hst, hC, hM, hP, hD, hS⟩ := hR
  refine x_aln jS dL_law_120 rfl hl 2 rfl ?_
  refine x_arg jS hX hbl hbA hS hl hL dL_law_121 dL_law_122 dL_law_123 dL_law_124 dL_law_125 ⟨by omega, by omega⟩ ?_
  refine rc_field jS hl.1 hK hS hA hP hD hst hC (ysF_in _ _) (fun wc H jL hC hP hD hS => ?_)
  refine x_aln jS dL_law_129 rfl hl 1 rfl ?_
  refine x_arg jS hX hbl hbA hS hl hL dL_law_130 dL_law_131 dL_law_132 dL_law_133 dL_law_134 ⟨by omega, by omega⟩ ?_
  refine rm_field jS hl.1 hK hS hA (va_Pswap hP) (va_Dswap hD) hst hM (ysF_in _ _) (fun wm H jL hM hP hD hS => ?_)
  refine lv_icmp_eq (tgt := 665) jS.1 jS.2.1 dL_law_138 (by decide) (fun _ => ?_) (fun q => absurd rfl q)
  exact kk _ _ ⟨_, _, _, _, _, _, _, _, _, _, _, _, _, wc, wm, st_field hst, hC, hM, va_Pswap hP, va_Dswap hD, hS⟩
theorem lc_set (jS : CallFix p m c cL_law 4 s args wsL_law RL) (hl : lv_has ls 4 [(3, .int (iI i)), (2, .ref mo), (1, .ref sb), (0, .ref b)]) (hK : xK D cI s) (hX : va_X b L xs s H0) (hbl : b < H0.size) (hbA : ¬ A b) (hA : ∀ q, H0.size ≤ q → A q) (hL : L ≤ 3072) (hi : 0 ≤ i ∧ i + 6 ≤ L) (hR : lwR D cI A H0 sb mo H locs) (kk : ∀ (H1 : Heap) (L1 : List Loc), lwR D cI A H0 sb mo H1 L1 → W p l e room_1 s m args below meth c H1 L1 66 2220 Q (F0 m 665 ls [])) : W p l e room_1 s m args below meth c H locs 66 2220 Q (F0 m 143 ls []) := by
  obtain ⟨P, sh, sc, k1, n1, k2, n2, cnt, ak, tr, pt1, pt2, row, wc, wm, hst, hC, hM, hP, hD, hS⟩ := hR
  refine x_aln jS dL_law_143 rfl hl 2 rfl ?_
  refine x_arg jS hX hbl hbA hS hl hL dL_law_144 dL_law_145 dL_law_146 dL_law_147 dL_law_148 ⟨by omega, by omega⟩ ?_
  refine x_arg jS hX hbl hbA hS hl hL dL_law_149 dL_law_150 dL_law_151 dL_law_152 dL_law_153 ⟨by omega, by omega⟩ ?_
  refine rc_set jS hl.1 hK hS hA hP hD hst hC (ysF_in _ _) (ysF_in _ _) (fun wc H jL hC hP hD hS => ?_)
  refine x_aln jS dL_law_157 rfl hl 1 rfl ?_
  refine x_arg jS hX hbl hbA hS hl hL dL_law_158 dL_law_159 dL_law_160 dL_law_161 dL_law_162 ⟨by omega, by omega⟩ ?_
  refine x_arg jS hX hbl hbA hS hl hL dL_law_163 dL_law_164 dL_law_165 dL_law_166 dL_law_167 ⟨by omega, by omega⟩ ?_
  refine rm_set jS hl.1 hK hS hA (va_Pswap hP) (va_Dswap hD) hst hM (ysF_in _ _) (ysF_in _ _) (fun wm H jL hM hP hD hS => ?_)
  refine lv_icmp_eq (tgt := 665) jS.1 jS.2.1 dL_law_171 (by decide) (fun _ => ?_) (fun q => absurd rfl q)
  exact kk _ _ ⟨_, _, _, _, _, _, _, _, _, _, _, _, _, wc, wm, st_set hst, hC, hM, va_Pswap hP, va_Dswap hD, hS⟩
theorem lc_form (jS : CallFix p m c cL_law 4 s args wsL_law RL) (hl : lv_has ls 4 [(3, .int (iI i)), (2, .ref mo), (1, .ref sb), (0, .ref b)]) (hK : xK D cI s) (hX : va_X b L xs s H0) (hbl : b < H0.size) (hbA : ¬ A b) (hA : ∀ q, H0.size ≤ q → A q) (hL : L ≤ 3072) (hi : 0 ≤ i ∧ i + 6 ≤ L) (hR : lwR D cI A H0 sb mo H locs) (kk : ∀ (H1 : Heap) (L1 : List Loc), lwR D cI A H0 sb mo H1 L1 → W p l e room_1 s m args below meth c H1 L1 66 2220 Q (F0 m 665 ls [])) : W p l e room_1 s m args below meth c H locs 66 2220 Q (F0 m 176 ls []) := by
  obtain ⟨P, sh, sc, k1, n1, k2, n2, cnt, ak, tr, pt1, pt2, row, wc, wm, hst, hC, hM, hP, hD, hS⟩ := hR
  refine x_aln jS dL_law_176 rfl hl 2 rfl ?_
  refine x_arg jS hX hbl hbA hS hl hL dL_law_177 dL_law_178 dL_law_179 dL_law_180 dL_law_181 ⟨by omega, by omega⟩ ?_
  refine x_arg jS hX hbl hbA hS hl hL dL_law_182 dL_law_183 dL_law_184 dL_law_185 dL_law_186 ⟨by omega, by omega⟩ ?_
  refine x_arg jS hX hbl hbA hS hl hL dL_law_187 dL_law_188 dL_law_189 dL_law_190 dL_law_191 ⟨by omega, by omega⟩ ?_
  refine rc_form jS hl.1 hK hS hA hP hD hst hC (ysF_in _ _) (ysF_in _ _) (ysF_in _ _) (fun wc H jL hC hP hD hS => ?_)
  refine x_aln jS dL_law_195 rfl hl 1 rfl ?_
  refine x_arg jS hX hbl hbA hS hl hL dL_law_196 dL_law_197 dL_law_198 dL_law_199 dL_law_200 ⟨by omega, by omega⟩ ?_
  refine x_arg jS hX hbl hbA hS hl hL dL_law_201 dL_law_202 dL_law_203 dL_law_204 dL_law_205 ⟨by omega, by omega⟩ ?_
  refine x_arg jS hX hbl hbA hS hl hL dL_law_206 dL_law_207 dL_law_208 dL_law_209 dL_law_210 ⟨by omega, by omega⟩ ?_
  refine rm_form jS hl.1 hK hS hA (va_Pswap hP) (va_Dswap hD) hst hM (ysF_in _ _) (ysF_in _ _) (ysF_in _ _) (fun wm H jL hM hP hD hS => ?_)
  refine lv_icmp_eq (tgt := 665) jS.1 jS.2.1 dL_law_214 (by decide) (fun _ => ?_) (fun q => absurd rfl q)
  exact kk _ _ ⟨_, _, _, _, _, _, _, _, _, _, _, _, _, wc, wm, hst, hC, hM, va_Pswap hP, va_Dswap hD, hS⟩
theorem lc_term (jS : CallFix p m c cL_law 4 s args wsL_law RL) (hl : lv_has ls 4 [(3, .int (iI i)), (2, .ref mo), (1, .ref sb), (0, .ref b)]) (hK : xK D cI s) (hX : va_X b L xs s H0) (hbl : b < H0.size) (hbA : ¬ A b) (hA : ∀ q, H0.size ≤ q → A q) (hL : L ≤ 3072) (hi : 0 ≤ i ∧ i + 6 ≤ L) (hR : lwR D cI A H0 sb mo H locs) (kk : ∀ (H1 : Heap) (L1 : List Loc), lwR D cI A H0 sb mo H1 L1 → W p l e room_1 s m args below meth c H1 L1 66 2220 Q (F0 m 665 ls [])) : W p l e room_1 s m args below meth c H locs 66 2220 Q (F0 m 219 ls []) := by
  obtain ⟨P, sh, sc, k1, n1, k2, n2, cnt, ak, tr, pt1, pt2, row, wc, wm, hst, hC, hM, hP, hD, hS⟩ := hR
  refine x_aln jS dL_law_219 rfl hl 2 rfl ?_
  refine x_arg jS hX hbl hbA hS hl hL dL_law_220 dL_law_221 dL_law_222 dL_law_223 dL_law_224 ⟨by omega, by omega⟩ ?_
  refine x_arg jS hX hbl hbA hS hl hL dL_law_225 dL_law_226 dL_law_227 dL_law_228 dL_law_229 ⟨by omega, by omega⟩ ?_
  refine x_arg jS hX hbl hbA hS hl hL dL_law_230 dL_law_231 dL_law_232 dL_law_233 dL_law_234 ⟨by omega, by omega⟩ ?_
  refine x_arg jS hX hbl hbA hS hl hL dL_law_235 dL_law_236 dL_law_237 dL_law_238 dL_law_239 ⟨by omega, by omega⟩ ?_
  refine x_arg jS hX hbl hbA hS hl hL dL_law_240 dL_law_241 dL_law_242 dL_law_243 dL_law_244 ⟨by omega, by omega⟩ ?_
  refine rc_term jS hl.1 hK hS hA hP hD hst hC (ysF_in _ _) (ysF_in _ _) (ysF_in _ _) (ysF_in _ _) (ysF_in _ _) (fun wc H jL hC hP hD hS => ?_)
  refine x_aln jS dL_law_248 rfl hl 1 rfl ?_
  refine x_arg jS hX hbl hbA hS hl hL dL_law_249 dL_law_250 dL_law_251 dL_law_252 dL_law_253 ⟨by omega, by omega⟩ ?_
  refine x_arg jS hX hbl hbA hS hl hL dL_law_254 dL_law_255 dL_law_256 dL_law_257 dL_law_258 ⟨by omega, by omega⟩ ?_
  refine x_arg jS hX hbl hbA hS hl hL dL_law_259 dL_law_260 dL_law_261 dL_law_262 dL_law_263 ⟨by omega, by omega⟩ ?_
  refine x_arg jS hX hbl hbA hS hl hL dL_law_264 dL_law_265 dL_law_266 dL_law_267 dL_law_268 ⟨by omega, by omega⟩ ?_
  refine x_arg jS hX hbl hbA hS hl hL dL_law_269 dL_law_270 dL_law_271 dL_law_272 dL_law_273 ⟨by omega, by omega⟩ ?_
  refine rm_term jS hl.1 hK hS hA (va_Pswap hP) (va_Dswap hD) hst hM (ysF_in _ _) (ysF_in _ _) (ysF_in _ _) (ysF_in _ _) (ysF_in _ _) (fun wm H jL hM hP hD hS => ?_)
  refine lv_icmp_eq (tgt := 665) jS.1 jS.2.1 dL_law_277 (by decide) (fun _ => ?_) (fun q => absurd rfl q)
  exact kk _ _ ⟨_, _, _, _, _, _, _, _, _, _, _, _, _, wc, wm, st_term hst, hC, hM, va_Pswap hP, va_Dswap hD, hS⟩
theorem lc_empty (jS : CallFix p m c cL_law 4 s args wsL_law RL) (hl : lv_has ls 4 [(3, .int (iI i)), (2, .ref mo), (1, .ref sb), (0, .ref b)]) (hK : xK D cI s) (hX : va_X b L xs s H0) (hbl : b < H0.size) (hbA : ¬ A b) (hA : ∀ q, H0.size ≤ q → A q) (hL : L ≤ 3072) (hi : 0 ≤ i ∧ i + 6 ≤ L) (hR : lwR D cI A H0 sb mo H locs) (kk : ∀ (H1 : Heap) (L1 : List Loc), lwR D cI A H0 sb mo H1 L1 → W p l e room_1 s m args below meth c H1 L1 66 2220 Q (F0 m 665 ls [])) : W p l e room_1 s m args below meth c H locs 66 2220 Q (F0 m 282 ls []) := by
  obtain ⟨P, sh, sc, k1, n1, k2, n2, cnt, ak, tr, pt1, pt2, row, wc, wm, hst, hC, hM, hP, hD, hS⟩ := hR
  refine x_aln jS dL_law_282 rfl hl 2 rfl ?_
  refine x_arg jS hX hbl hbA hS hl hL dL_law_283 dL_law_284 dL_law_285 dL_law_286 dL_law_287 ⟨by omega, by omega⟩ ?_
  refine rc_empty jS hl.1 hK hS hA hP hD hst hC (ysF_in _ _) (fun wc H jL hC hP hD hS => ?_)
  refine x_aln jS dL_law_291 rfl hl 1 rfl ?_
  refine x_arg jS hX hbl hbA hS hl hL dL_law_292 dL_law_293 dL_law_294 dL_law_295 dL_law_296 ⟨by omega, by omega⟩ ?_
  refine rm_empty jS hl.1 hK hS hA (va_Pswap hP) (va_Dswap hD) hst hM (ysF_in _ _) (fun wm H jL hM hP hD hS => ?_)
  refine lv_icmp_eq (tgt := 665) jS.1 jS.2.1 dL_law_300 (by decide) (fun _ => ?_) (fun q => absurd rfl q)
  exact kk _ _ ⟨_, _, _, _, _, _, _, _, _, _, _, _, _, wc, wm, st_empty hst, hC, hM, va_Pswap hP, va_Dswap hD, hS⟩
theorem lc_ask (jS : CallFix p m c cL_law 4 s args wsL_law RL) (hl : lv_has ls 4 [(3, .int (iI i)), (2, .ref mo), (1, .ref sb), (0, .ref b)]) (hK : xK D cI s) (hX : va_X b L xs s H0) (hbl : b < H0.size) (hbA : ¬ A b) (hA : ∀ q, H0.size ≤ q → A q) (hL : L ≤ 3072) (hi : 0 ≤ i ∧ i + 6 ≤ L) (hR : lwR D cI A H0 sb mo H locs) (kk : ∀ (H1 : Heap) (L1 : List Loc), lwR D cI A H0 sb mo H1 L1 → W p l e room_1 s m args below meth c H1 L1 66 2220 Q (F0 m 665 ls [])) : W p l e room_1 s m args below meth c H locs 66 2220 Q (F0 m 305 ls []) := by
  obtain ⟨P, sh, sc, k1, n1, k2, n2, cnt, ak, tr, pt1, pt2, row, wc, wm, hst, hC, hM, hP, hD, hS⟩ := hR
  refine x_aln jS dL_law_305 rfl hl 2 rfl ?_
  refine x_arg jS hX hbl hbA hS hl hL dL_law_306 dL_law_307 dL_law_308 dL_law_309 dL_law_310 ⟨by omega, by omega⟩ ?_
  refine x_arg jS hX hbl hbA hS hl hL dL_law_311 dL_law_312 dL_law_313 dL_law_314 dL_law_315 ⟨by omega, by omega⟩ ?_
  refine x_arg jS hX hbl hbA hS hl hL dL_law_316 dL_law_317 dL_law_318 dL_law_319 dL_law_320 ⟨by omega, by omega⟩ ?_
  refine x_arg jS hX hbl hbA hS hl hL dL_law_321 dL_law_322 dL_law_323 dL_law_324 dL_law_325 ⟨by omega, by omega⟩ ?_
  refine rc_ask jS hl.1 hK hS hA hP hD hst hC (ysF_in _ _) (ysF_in _ _) (ysF_in _ _) (ysF_in _ _) (fun wc H jL hC hP hD hS => ?_)
  refine x_aln jS dL_law_329 rfl hl 1 rfl ?_
  refine x_arg jS hX hbl hbA hS hl hL dL_law_330 dL_law_331 dL_law_332 dL_law_333 dL_law_334 ⟨by omega, by omega⟩ ?_
  refine x_arg jS hX hbl hbA hS hl hL dL_law_335 dL_law_336 dL_law_337 dL_law_338 dL_law_339 ⟨by omega, by omega⟩ ?_
  refine x_arg jS hX hbl hbA hS hl hL dL_law_340 dL_law_341 dL_law_342 dL_law_343 dL_law_344 ⟨by omega, by omega⟩ ?_
  refine x_arg jS hX hbl hbA hS hl hL dL_law_345 dL_law_346 dL_law_347 dL_law_348 dL_law_349 ⟨by omega, by omega⟩ ?_
  refine rm_ask jS hl.1 hK hS hA (va_Pswap hP) (va_Dswap hD) hst hM (ysF_in _ _) (ysF_in _ _) (ysF_in _ _) (ysF_in _ _) (fun wm H jL hM hP hD hS => ?_)
  refine lv_icmp_eq (tgt := 665) jS.1 jS.2.1 dL_law_353 (by decide) (fun _ => ?_) (fun q => absurd rfl q)
  exact kk _ _ ⟨_, _, _, _, _, _, _, _, _, _, _, _, _, wc, wm, hst, hC, hM, va_Pswap hP, va_Dswap hD, hS⟩
theorem lc_say (jS : CallFix p m c cL_law 4 s args wsL_law RL) (hl : lv_has ls 4 [(3, .int (iI i)), (2, .ref mo), (1, .ref sb), (0, .ref b)]) (hK : xK D cI s) (hX : va_X b L xs s H0) (hbl : b < H0.size) (hbA : ¬ A b) (hA : ∀ q, H0.size ≤ q → A q) (hL : L ≤ 3072) (hi : 0 ≤ i ∧ i + 6 ≤ L) (hR : lwR D cI A H0 sb mo H locs) (kk : ∀ (H1 : Heap) (L1 : List Loc), lwR D cI A H0 sb mo H1 L1 → W p l e room_1 s m args below meth c H1 L1 66 2220 Q (F0 m 665 ls [])) : W p l e room_1 s m args below meth c H locs 66 2220 Q (F0 m 358 ls []) := by
  obtain ⟨P, sh, sc, k1, n1, k2, n2, cnt, ak, tr, pt1, pt2, row, wc, wm, hst, hC, hM, hP, hD, hS⟩ := hR
  refine x_aln jS dL_law_358 rfl hl 2 rfl ?_
  refine x_arg jS hX hbl hbA hS hl hL dL_law_359 dL_law_360 dL_law_361 dL_law_362 dL_law_363 ⟨by omega, by omega⟩ ?_
  refine rc_say jS hl.1 hK hS hA hP hD hst hC (ysF_in _ _) (fun wc H jL hC hP hD hS => ?_)
  refine x_aln jS dL_law_367 rfl hl 1 rfl ?_
  refine x_arg jS hX hbl hbA hS hl hL dL_law_368 dL_law_369 dL_law_370 dL_law_371 dL_law_372 ⟨by omega, by omega⟩ ?_
  refine rm_say jS hl.1 hK hS hA (va_Pswap hP) (va_Dswap hD) hst hM (ysF_in _ _) (fun wm H jL hM hP hD hS => ?_)
  refine lv_icmp_eq (tgt := 665) jS.1 jS.2.1 dL_law_376 (by decide) (fun _ => ?_) (fun q => absurd rfl q)
  exact kk _ _ ⟨_, _, _, _, _, _, _, _, _, _, _, _, _, wc, wm, st_say hst, hC, hM, va_Pswap hP, va_Dswap hD, hS⟩
theorem lc_change (jS : CallFix p m c cL_law 4 s args wsL_law RL) (hl : lv_has ls 4 [(3, .int (iI i)), (2, .ref mo), (1, .ref sb), (0, .ref b)]) (hK : xK D cI s) (hX : va_X b L xs s H0) (hbl : b < H0.size) (hbA : ¬ A b) (hA : ∀ q, H0.size ≤ q → A q) (hL : L ≤ 3072) (hi : 0 ≤ i ∧ i + 6 ≤ L) (hR : lwR D cI A H0 sb mo H locs) (kk : ∀ (H1 : Heap) (L1 : List Loc), lwR D cI A H0 sb mo H1 L1 → W p l e room_1 s m args below meth c H1 L1 66 2220 Q (F0 m 665 ls [])) : W p l e room_1 s m args below meth c H locs 66 2220 Q (F0 m 381 ls []) := by
  obtain ⟨P, sh, sc, k1, n1, k2, n2, cnt, ak, tr, pt1, pt2, row, wc, wm, hst, hC, hM, hP, hD, hS⟩ := hR
  refine x_aln jS dL_law_381 rfl hl 2 rfl ?_
  refine x_arg jS hX hbl hbA hS hl hL dL_law_382 dL_law_383 dL_law_384 dL_law_385 dL_law_386 ⟨by omega, by omega⟩ ?_
  refine x_arg jS hX hbl hbA hS hl hL dL_law_387 dL_law_388 dL_law_389 dL_law_390 dL_law_391 ⟨by omega, by omega⟩ ?_
  refine rc_change jS hl.1 hK hS hA hP hD hst hC (ysF_in _ _) (ysF_in _ _) (fun wc H jL hC hP hD hS => ?_)
  refine x_aln jS dL_law_395 rfl hl 1 rfl ?_
  refine x_arg jS hX hbl hbA hS hl hL dL_law_396 dL_law_397 dL_law_398 dL_law_399 dL_law_400 ⟨by omega, by omega⟩ ?_
  refine x_arg jS hX hbl hbA hS hl hL dL_law_401 dL_law_402 dL_law_403 dL_law_404 dL_law_405 ⟨by omega, by omega⟩ ?_
  refine rm_change jS hl.1 hK hS hA (va_Pswap hP) (va_Dswap hD) hst hM (ysF_in _ _) (ysF_in _ _) (fun wm H jL hM hP hD hS => ?_)
  refine lv_icmp_eq (tgt := 665) jS.1 jS.2.1 dL_law_409 (by decide) (fun _ => ?_) (fun q => absurd rfl q)
  exact kk _ _ ⟨_, _, _, _, _, _, _, _, _, _, _, _, _, wc, wm, st_change hst, hC, hM, va_Pswap hP, va_Dswap hD, hS⟩
theorem lc_clear (jS : CallFix p m c cL_law 4 s args wsL_law RL) (hl : lv_has ls 4 [(3, .int (iI i)), (2, .ref mo), (1, .ref sb), (0, .ref b)]) (hK : xK D cI s) (hX : va_X b L xs s H0) (hbl : b < H0.size) (hbA : ¬ A b) (hA : ∀ q, H0.size ≤ q → A q) (hL : L ≤ 3072) (hi : 0 ≤ i ∧ i + 6 ≤ L) (hR : lwR D cI A H0 sb mo H locs) (kk : ∀ (H1 : Heap) (L1 : List Loc), lwR D cI A H0 sb mo H1 L1 → W p l e room_1 s m args below meth c H1 L1 66 2220 Q (F0 m 665 ls [])) : W p l e room_1 s m args below meth c H locs 66 2220 Q (F0 m 414 ls []) := by
  obtain ⟨P, sh, sc, k1, n1, k2, n2, cnt, ak, tr, pt1, pt2, row, wc, wm, hst, hC, hM, hP, hD, hS⟩ := hR
  refine x_aln jS dL_law_414 rfl hl 2 rfl ?_
  refine rc_clear jS hl.1 hK hS hA hP hD hst hC (fun wc H jL hC hP hD hS => ?_)
  refine x_aln jS dL_law_418 rfl hl 1 rfl ?_
  refine rm_clear jS hl.1 hK hS hA (va_Pswap hP) (va_Dswap hD) hst hM (fun wm H jL hM hP hD hS => ?_)
  refine lv_icmp_eq (tgt := 665) jS.1 jS.2.1 dL_law_422 (by decide) (fun _ => ?_) (fun q => absurd rfl q)
  exact kk _ _ ⟨_, _, _, _, _, _, _, _, _, _, _, _, _, wc, wm, st_clear hst, hC, hM, va_Pswap hP, va_Dswap hD, hS⟩
theorem lc_register (jS : CallFix p m c cL_law 4 s args wsL_law RL) (hl : lv_has ls 4 [(3, .int (iI i)), (2, .ref mo), (1, .ref sb), (0, .ref b)]) (hK : xK D cI s) (hX : va_X b L xs s H0) (hbl : b < H0.size) (hbA : ¬ A b) (hA : ∀ q, H0.size ≤ q → A q) (hL : L ≤ 3072) (hi : 0 ≤ i ∧ i + 6 ≤ L) (hR : lwR D cI A H0 sb mo H locs) (kk : ∀ (H1 : Heap) (L1 : List Loc), lwR D cI A H0 sb mo H1 L1 → W p l e room_1 s m args below meth c H1 L1 66 2220 Q (F0 m 665 ls [])) : W p l e room_1 s m args below meth c H locs 66 2220 Q (F0 m 427 ls []) := by
  obtain ⟨P, sh, sc, k1, n1, k2, n2, cnt, ak, tr, pt1, pt2, row, wc, wm, hst, hC, hM, hP, hD, hS⟩ := hR
  refine x_aln jS dL_law_427 rfl hl 2 rfl ?_
  refine x_arg jS hX hbl hbA hS hl hL dL_law_428 dL_law_429 dL_law_430 dL_law_431 dL_law_432 ⟨by omega, by omega⟩ ?_
  refine rc_register jS hl.1 hK hS hA hP hD hst hC (ysF_in _ _) (fun wc H jL hC hP hD hS => ?_)
  refine x_aln jS dL_law_436 rfl hl 1 rfl ?_
  refine x_arg jS hX hbl hbA hS hl hL dL_law_437 dL_law_438 dL_law_439 dL_law_440 dL_law_441 ⟨by omega, by omega⟩ ?_
  refine rm_register jS hl.1 hK hS hA (va_Pswap hP) (va_Dswap hD) hst hM (ysF_in _ _) (fun wm H jL hM hP hD hS => ?_)
  refine lv_icmp_eq (tgt := 665) jS.1 jS.2.1 dL_law_445 (by decide) (fun _ => ?_) (fun q => absurd rfl q)
  exact kk _ _ ⟨_, _, _, _, _, _, _, _, _, _, _, _, _, wc, wm, hst, hC, hM, va_Pswap hP, va_Dswap hD, hS⟩
theorem lc_far (jS : CallFix p m c cL_law 4 s args wsL_law RL) (hl : lv_has ls 4 [(3, .int (iI i)), (2, .ref mo), (1, .ref sb), (0, .ref b)]) (hK : xK D cI s) (hX : va_X b L xs s H0) (hbl : b < H0.size) (hbA : ¬ A b) (hA : ∀ q, H0.size ≤ q → A q) (hL : L ≤ 3072) (hi : 0 ≤ i ∧ i + 6 ≤ L) (hR : lwR D cI A H0 sb mo H locs) (kk : ∀ (H1 : Heap) (L1 : List Loc), lwR D cI A H0 sb mo H1 L1 → W p l e room_1 s m args below meth c H1 L1 66 2220 Q (F0 m 665 ls [])) : W p l e room_1 s m args below meth c H locs 66 2220 Q (F0 m 450 ls []) := by
  obtain ⟨P, sh, sc, k1, n1, k2, n2, cnt, ak, tr, pt1, pt2, row, wc, wm, hst, hC, hM, hP, hD, hS⟩ := hR
  refine x_aln jS dL_law_450 rfl hl 2 rfl ?_
  refine x_arg jS hX hbl hbA hS hl hL dL_law_451 dL_law_452 dL_law_453 dL_law_454 dL_law_455 ⟨by omega, by omega⟩ ?_
  refine rc_far jS hl.1 hK hS hA hP hD hst hC (ysF_in _ _) (fun wc H jL hC hP hD hS => ?_)
  refine x_aln jS dL_law_459 rfl hl 1 rfl ?_
  refine x_arg jS hX hbl hbA hS hl hL dL_law_460 dL_law_461 dL_law_462 dL_law_463 dL_law_464 ⟨by omega, by omega⟩ ?_
  refine rm_far jS hl.1 hK hS hA (va_Pswap hP) (va_Dswap hD) hst hM (ysF_in _ _) (fun wm H jL hM hP hD hS => ?_)
  refine lv_icmp_eq (tgt := 665) jS.1 jS.2.1 dL_law_468 (by decide) (fun _ => ?_) (fun q => absurd rfl q)
  exact kk _ _ ⟨_, _, _, _, _, _, _, _, _, _, _, _, _, wc, wm, hst, hC, hM, va_Pswap hP, va_Dswap hD, hS⟩
theorem lc_lie (jS : CallFix p m c cL_law 4 s args wsL_law RL) (hl : lv_has ls 4 [(3, .int (iI i)), (2, .ref mo), (1, .ref sb), (0, .ref b)]) (hK : xK D cI s) (hX : va_X b L xs s H0) (hbl : b < H0.size) (hbA : ¬ A b) (hA : ∀ q, H0.size ≤ q → A q) (hL : L ≤ 3072) (hi : 0 ≤ i ∧ i + 6 ≤ L) (hR : lwR D cI A H0 sb mo H locs) (kk : ∀ (H1 : Heap) (L1 : List Loc), lwR D cI A H0 sb mo H1 L1 → W p l e room_1 s m args below meth c H1 L1 66 2220 Q (F0 m 665 ls [])) : W p l e room_1 s m args below meth c H locs 66 2220 Q (F0 m 473 ls []) := by
  obtain ⟨P, sh, sc, k1, n1, k2, n2, cnt, ak, tr, pt1, pt2, row, wc, wm, hst, hC, hM, hP, hD, hS⟩ := hR
  refine x_aln jS dL_law_473 rfl hl 2 rfl ?_
  refine x_arg jS hX hbl hbA hS hl hL dL_law_474 dL_law_475 dL_law_476 dL_law_477 dL_law_478 ⟨by omega, by omega⟩ ?_
  refine rc_lie jS hl.1 hK hS hA hP hD hst hC (ysF_in _ _) (fun wc H jL hC hP hD hS => ?_)
  refine x_aln jS dL_law_482 rfl hl 1 rfl ?_
  refine x_arg jS hX hbl hbA hS hl hL dL_law_483 dL_law_484 dL_law_485 dL_law_486 dL_law_487 ⟨by omega, by omega⟩ ?_
  refine rm_lie jS hl.1 hK hS hA (va_Pswap hP) (va_Dswap hD) hst hM (ysF_in _ _) (fun wm H jL hM hP hD hS => ?_)
  refine lv_icmp_eq (tgt := 665) jS.1 jS.2.1 dL_law_491 (by decide) (fun _ => ?_) (fun q => absurd rfl q)
  exact kk _ _ ⟨_, _, _, _, _, _, _, _, _, _, _, _, _, wc, wm, hst, hC, hM, va_Pswap hP, va_Dswap hD, hS⟩
theorem lc_got (jS : CallFix p m c cL_law 4 s args wsL_law RL) (hl : lv_has ls 4 [(3, .int (iI i)), (2, .ref mo), (1, .ref sb), (0, .ref b)]) (hK : xK D cI s) (hX : va_X b L xs s H0) (hbl : b < H0.size) (hbA : ¬ A b) (hA : ∀ q, H0.size ≤ q → A q) (hL : L ≤ 3072) (hi : 0 ≤ i ∧ i + 6 ≤ L) (hR : lwR D cI A H0 sb mo H locs) (kk : ∀ (H1 : Heap) (L1 : List Loc), lwR D cI A H0 sb mo H1 L1 → W p l e room_1 s m args below meth c H1 L1 66 2220 Q (F0 m 665 ls [])) : W p l e room_1 s m args below meth c H locs 66 2220 Q (F0 m 496 ls []) := by
  obtain ⟨P, sh, sc, k1, n1, k2, n2, cnt, ak, tr, pt1, pt2, row, wc, wm, hst, hC, hM, hP, hD, hS⟩ := hR
  refine x_aln jS dL_law_496 rfl hl 2 rfl ?_
  refine x_arg jS hX hbl hbA hS hl hL dL_law_497 dL_law_498 dL_law_499 dL_law_500 dL_law_501 ⟨by omega, by omega⟩ ?_
  refine x_arg jS hX hbl hbA hS hl hL dL_law_502 dL_law_503 dL_law_504 dL_law_505 dL_law_506 ⟨by omega, by omega⟩ ?_
  refine x_arg jS hX hbl hbA hS hl hL dL_law_507 dL_law_508 dL_law_509 dL_law_510 dL_law_511 ⟨by omega, by omega⟩ ?_
  refine rc_got jS hl.1 hK hS hA hP hD hst hC (ysF_in _ _) (ysF_in _ _) (ysF_in _ _) (fun wc H jL hC hP hD hS => ?_)
  refine x_aln jS dL_law_515 rfl hl 1 rfl ?_
  refine x_arg jS hX hbl hbA hS hl hL dL_law_516 dL_law_517 dL_law_518 dL_law_519 dL_law_520 ⟨by omega, by omega⟩ ?_
  refine x_arg jS hX hbl hbA hS hl hL dL_law_521 dL_law_522 dL_law_523 dL_law_524 dL_law_525 ⟨by omega, by omega⟩ ?_
  refine x_arg jS hX hbl hbA hS hl hL dL_law_526 dL_law_527 dL_law_528 dL_law_529 dL_law_530 ⟨by omega, by omega⟩ ?_
  refine rm_got jS hl.1 hK hS hA (va_Pswap hP) (va_Dswap hD) hst hM (ysF_in _ _) (ysF_in _ _) (ysF_in _ _) (fun wm H jL hM hP hD hS => ?_)
  refine lv_icmp_eq (tgt := 665) jS.1 jS.2.1 dL_law_534 (by decide) (fun _ => ?_) (fun q => absurd rfl q)
  exact kk _ _ ⟨_, _, _, _, _, _, _, _, _, _, _, _, _, wc, wm, hst, hC, hM, va_Pswap hP, va_Dswap hD, hS⟩
theorem lc_right (jS : CallFix p m c cL_law 4 s args wsL_law RL) (hl : lv_has ls 4 [(3, .int (iI i)), (2, .ref mo), (1, .ref sb), (0, .ref b)]) (hK : xK D cI s) (hX : va_X b L xs s H0) (hbl : b < H0.size) (hbA : ¬ A b) (hA : ∀ q, H0.size ≤ q → A q) (hL : L ≤ 3072) (hi : 0 ≤ i ∧ i + 6 ≤ L) (hR : lwR D cI A H0 sb mo H locs) (kk : ∀ (H1 : Heap) (L1 : List Loc), lwR D cI A H0 sb mo H1 L1 → W p l e room_1 s m args below meth c H1 L1 66 2220 Q (F0 m 665 ls [])) : W p l e room_1 s m args below meth c H locs 66 2220 Q (F0 m 539 ls []) := by
  obtain ⟨P, sh, sc, k1, n1, k2, n2, cnt, ak, tr, pt1, pt2, row, wc, wm, hst, hC, hM, hP, hD, hS⟩ := hR
  refine x_aln jS dL_law_539 rfl hl 2 rfl ?_
  refine x_arg jS hX hbl hbA hS hl hL dL_law_540 dL_law_541 dL_law_542 dL_law_543 dL_law_544 ⟨by omega, by omega⟩ ?_
  refine x_arg jS hX hbl hbA hS hl hL dL_law_545 dL_law_546 dL_law_547 dL_law_548 dL_law_549 ⟨by omega, by omega⟩ ?_
  refine x_arg jS hX hbl hbA hS hl hL dL_law_550 dL_law_551 dL_law_552 dL_law_553 dL_law_554 ⟨by omega, by omega⟩ ?_
  refine x_arg jS hX hbl hbA hS hl hL dL_law_555 dL_law_556 dL_law_557 dL_law_558 dL_law_559 ⟨by omega, by omega⟩ ?_
  refine rc_right jS hl.1 hK hS hA hP hD hst hC (ysF_in _ _) (ysF_in _ _) (ysF_in _ _) (ysF_in _ _) (fun wc H jL hC hP hD hS => ?_)
  refine x_aln jS dL_law_563 rfl hl 1 rfl ?_
  refine x_arg jS hX hbl hbA hS hl hL dL_law_564 dL_law_565 dL_law_566 dL_law_567 dL_law_568 ⟨by omega, by omega⟩ ?_
  refine x_arg jS hX hbl hbA hS hl hL dL_law_569 dL_law_570 dL_law_571 dL_law_572 dL_law_573 ⟨by omega, by omega⟩ ?_
  refine x_arg jS hX hbl hbA hS hl hL dL_law_574 dL_law_575 dL_law_576 dL_law_577 dL_law_578 ⟨by omega, by omega⟩ ?_
  refine x_arg jS hX hbl hbA hS hl hL dL_law_579 dL_law_580 dL_law_581 dL_law_582 dL_law_583 ⟨by omega, by omega⟩ ?_
  refine rm_right jS hl.1 hK hS hA (va_Pswap hP) (va_Dswap hD) hst hM (ysF_in _ _) (ysF_in _ _) (ysF_in _ _) (ysF_in _ _) (fun wm H jL hM hP hD hS => ?_)
  refine lv_icmp_eq (tgt := 665) jS.1 jS.2.1 dL_law_587 (by decide) (fun _ => ?_) (fun q => absurd rfl q)
  exact kk _ _ ⟨_, _, _, _, _, _, _, _, _, _, _, _, _, wc, wm, hst, hC, hM, va_Pswap hP, va_Dswap hD, hS⟩
theorem lc_zeros (jS : CallFix p m c cL_law 4 s args wsL_law RL) (hl : lv_has ls 4 [(3, .int (iI i)), (2, .ref mo), (1, .ref sb), (0, .ref b)]) (hK : xK D cI s) (hX : va_X b L xs s H0) (hbl : b < H0.size) (hbA : ¬ A b) (hA : ∀ q, H0.size ≤ q → A q) (hL : L ≤ 3072) (hi : 0 ≤ i ∧ i + 6 ≤ L) (hR : lwR D cI A H0 sb mo H locs) (kk : ∀ (H1 : Heap) (L1 : List Loc), lwR D cI A H0 sb mo H1 L1 → W p l e room_1 s m args below meth c H1 L1 66 2220 Q (F0 m 665 ls [])) : W p l e room_1 s m args below meth c H locs 66 2220 Q (F0 m 592 ls []) := by
  obtain ⟨P, sh, sc, k1, n1, k2, n2, cnt, ak, tr, pt1, pt2, row, wc, wm, hst, hC, hM, hP, hD, hS⟩ := hR
  refine x_aln jS dL_law_592 rfl hl 2 rfl ?_
  refine x_arg jS hX hbl hbA hS hl hL dL_law_593 dL_law_594 dL_law_595 dL_law_596 dL_law_597 ⟨by omega, by omega⟩ ?_
  refine rc_zeros jS hl.1 hK hS hA hP hD hst hC (ysF_in _ _) (fun wc H jL hC hP hD hS => ?_)
  refine x_aln jS dL_law_601 rfl hl 1 rfl ?_
  refine x_arg jS hX hbl hbA hS hl hL dL_law_602 dL_law_603 dL_law_604 dL_law_605 dL_law_606 ⟨by omega, by omega⟩ ?_
  refine rm_zeros jS hl.1 hK hS hA (va_Pswap hP) (va_Dswap hD) hst hM (ysF_in _ _) (fun wm H jL hM hP hD hS => ?_)
  refine lv_icmp_eq (tgt := 665) jS.1 jS.2.1 dL_law_610 (by decide) (fun _ => ?_) (fun q => absurd rfl q)
  exact kk _ _ ⟨_, _, _, _, _, _, _, _, _, _, _, _, _, wc, wm, hst, hC, hM, va_Pswap hP, va_Dswap hD, hS⟩
theorem lc_meet (jS : CallFix p m c cL_law 4 s args wsL_law RL) (hl : lv_has ls 4 [(3, .int (iI i)), (2, .ref mo), (1, .ref sb), (0, .ref b)]) (hK : xK D cI s) (hX : va_X b L xs s H0) (hbl : b < H0.size) (hbA : ¬ A b) (hA : ∀ q, H0.size ≤ q → A q) (hL : L ≤ 3072) (hi : 0 ≤ i ∧ i + 6 ≤ L) (hR : lwR D cI A H0 sb mo H locs) (kk : ∀ (H1 : Heap) (L1 : List Loc), lwR D cI A H0 sb mo H1 L1 → W p l e room_1 s m args below meth c H1 L1 66 2220 Q (F0 m 665 ls [])) : W p l e room_1 s m args below meth c H locs 66 2220 Q (F0 m 615 ls []) := by
  obtain ⟨P, sh, sc, k1, n1, k2, n2, cnt, ak, tr, pt1, pt2, row, wc, wm, hst, hC, hM, hP, hD, hS⟩ := hR
  refine x_aln jS dL_law_615 rfl hl 2 rfl ?_
  refine rc_meet jS hl.1 hK hS hA hP hD hst hC (fun wc H jL hC hP hD hS => ?_)
  refine x_aln jS dL_law_619 rfl hl 1 rfl ?_
  refine rm_meet jS hl.1 hK hS hA (va_Pswap hP) (va_Dswap hD) hst hM (fun wm H jL hM hP hD hS => ?_)
  refine lv_icmp_eq (tgt := 665) jS.1 jS.2.1 dL_law_623 (by decide) (fun _ => ?_) (fun q => absurd rfl q)
  exact kk _ _ ⟨_, _, _, _, _, _, _, _, _, _, _, _, _, wc, wm, hst, hC, hM, va_Pswap hP, va_Dswap hD, hS⟩
theorem lc_count (jS : CallFix p m c cL_law 4 s args wsL_law RL) (hl : lv_has ls 4 [(3, .int (iI i)), (2, .ref mo), (1, .ref sb), (0, .ref b)]) (hK : xK D cI s) (hX : va_X b L xs s H0) (hbl : b < H0.size) (hbA : ¬ A b) (hA : ∀ q, H0.size ≤ q → A q) (hL : L ≤ 3072) (hi : 0 ≤ i ∧ i + 6 ≤ L) (hR : lwR D cI A H0 sb mo H locs) (kk : ∀ (H1 : Heap) (L1 : List Loc), lwR D cI A H0 sb mo H1 L1 → W p l e room_1 s m args below meth c H1 L1 66 2220 Q (F0 m 665 ls [])) : W p l e room_1 s m args below meth c H locs 66 2220 Q (F0 m 628 ls []) := by
  obtain ⟨P, sh, sc, k1, n1, k2, n2, cnt, ak, tr, pt1, pt2, row, wc, wm, hst, hC, hM, hP, hD, hS⟩ := hR
  refine x_aln jS dL_law_628 rfl hl 2 rfl ?_
  refine x_arg jS hX hbl hbA hS hl hL dL_law_629 dL_law_630 dL_law_631 dL_law_632 dL_law_633 ⟨by omega, by omega⟩ ?_
  refine rc_count jS hl.1 hK hS hA hP hD hst hC (ysF_in _ _) (fun wc H jL hC hP hD hS => ?_)
  refine x_aln jS dL_law_637 rfl hl 1 rfl ?_
  refine x_arg jS hX hbl hbA hS hl hL dL_law_638 dL_law_639 dL_law_640 dL_law_641 dL_law_642 ⟨by omega, by omega⟩ ?_
  refine rm_count jS hl.1 hK hS hA (va_Pswap hP) (va_Dswap hD) hst hM (ysF_in _ _) (fun wm H jL hM hP hD hS => ?_)
  refine lv_icmp_eq (tgt := 665) jS.1 jS.2.1 dL_law_646 (by decide) (fun _ => ?_) (fun q => absurd rfl q)
  exact kk _ _ ⟨_, _, _, _, _, _, _, _, _, _, _, _, _, wc, wm, hst, hC, hM, va_Pswap hP, va_Dswap hD, hS⟩
theorem lc_trace (jS : CallFix p m c cL_law 4 s args wsL_law RL) (hl : lv_has ls 4 [(3, .int (iI i)), (2, .ref mo), (1, .ref sb), (0, .ref b)]) (hK : xK D cI s) (hX : va_X b L xs s H0) (hbl : b < H0.size) (hbA : ¬ A b) (hA : ∀ q, H0.size ≤ q → A q) (hL : L ≤ 3072) (hi : 0 ≤ i ∧ i + 6 ≤ L) (hR : lwR D cI A H0 sb mo H locs) (kk : ∀ (H1 : Heap) (L1 : List Loc), lwR D cI A H0 sb mo H1 L1 → W p l e room_1 s m args below meth c H1 L1 66 2220 Q (F0 m 665 ls [])) : W p l e room_1 s m args below meth c H locs 66 2220 Q (F0 m 651 ls []) := by
  obtain ⟨P, sh, sc, k1, n1, k2, n2, cnt, ak, tr, pt1, pt2, row, wc, wm, hst, hC, hM, hP, hD, hS⟩ := hR
  refine x_aln jS dL_law_651 rfl hl 2 rfl ?_
  refine rc_trace jS hl.1 hK hS hA hP hD hst hC (fun wc H jL hC hP hD hS => ?_)
  refine x_aln jS dL_law_655 rfl hl 1 rfl ?_
  refine rm_trace jS hl.1 hK hS hA (va_Pswap hP) (va_Dswap hD) hst hM (fun wm H jL hM hP hD hS => ?_)
  refine W.lcmp jS.1 jS.2.1 dL_law_659 ?_
  refine lv_if_eq (tgt := 665) jS.1 jS.2.1 dL_law_660 (by decide) (fun _ => ?_) (fun q => absurd (lg_self _) q)
  exact kk _ _ ⟨_, _, _, _, _, _, _, _, _, _, _, _, _, wc, wm, hst, hC, hM, va_Pswap hP, va_Dswap hD, hS⟩
end XZ
