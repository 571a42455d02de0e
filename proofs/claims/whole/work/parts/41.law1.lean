section LAWC
variable {G : zh_G} {l : Launch} {f : Nat → va_E} {nn : Nat} {σ : sg} {R P N D : Nat} {ra pa : Nat → Nat} {nm ds : String} {i : Int32} {mc ms0 : Nat} {Q : Option Value → zh_H → Prop}
set_option maxRecDepth 20000 in
theorem law_rack (hb : zg_s G < zg_B G) (v1 : vp_in (i + 1) (zg_L G)) (v2 : vp_in (i + 2) (zg_L G)) (v3 : vp_in (i + 3) (zg_L G)) (v4 : vp_in (i + 4) (zg_L G)) (v5 : vp_in (i + 5) (zg_L G)) (he : f = ms G f σ) (h : cP G f nn σ R P ra pa) (hi : iv σ R P N D) (hR : R + 1 ≤ 4000) (K : ∀ (f1 : Nat → va_E) (n1 : Nat) (σ1 : sg) (R1 : Nat), R1 ≤ R + 1 → LI G f1 n1 σ1 R1 → zv G l ⟨RL, nm, ds⟩ cL_law 4 (some .boolean) 7 mc ms0 1027 [(3, .int i), (2, .ref (zg_B G + 18)), (1, .ref (zg_B G)), (0, .ref (zg_s G))] [] (f1, n1) Q) : zv G l ⟨RL, nm, ds⟩ cL_law 4 (some .boolean) 7 (2 + mc) (19 + ms0) 160 [(3, .int i), (2, .ref (zg_B G + 18)), (1, .ref (zg_B G)), (0, .ref (zg_s G))] [] (f, nn) Q := by
  refine zv_more (2 + mc) (19 + ms0) (by omega) (by omega) ?_
  refine zv_aload_n dL_law_160 rfl ?_
  refine zv_aload_n dL_law_161 rfl ?_
  refine zv_iload_n dL_law_162 rfl ?_
  refine zv_iconstv (v := 1) dL_law_163 (by decide) ?_
  refine zv_iadd dL_law_164 ?_
  refine zv_sald hb v1 dL_law_165 ?_
  refine zv_aload_n dL_law_166 rfl ?_
  refine zv_iload_n dL_law_167 rfl ?_
  refine zv_iconstv (v := 2) dL_law_168 (by decide) ?_
  refine zv_iadd dL_law_169 ?_
  refine zv_sald hb v2 dL_law_170 ?_
  refine zv_aload_n dL_law_171 rfl ?_
  refine zv_iload_n dL_law_172 rfl ?_
  refine zv_iconstv (v := 3) dL_law_173 (by decide) ?_
  refine zv_iadd dL_law_174 ?_
  refine zv_sald hb v3 dL_law_175 ?_
  refine zL_X he h zm_L_13 zkyX7_rack rfl (xX_rack h hi hR) rfl rfl (Nat.le_of_ble_eq_true rfl) (by decide) dL_law_176 (fun f1 n1 L2 => ?_)
  refine zv_aload_n dL_law_179 rfl ?_
  refine zv_aload_n dL_law_180 rfl ?_
  refine zv_iload_n dL_law_181 rfl ?_
  refine zv_iconstv (v := 1) dL_law_182 (by decide) ?_
  refine zv_iadd dL_law_183 ?_
  refine zv_sald hb v1 dL_law_184 ?_
  refine zv_aload_n dL_law_185 rfl ?_
  refine zv_iload_n dL_law_186 rfl ?_
  refine zv_iconstv (v := 2) dL_law_187 (by decide) ?_
  refine zv_iadd dL_law_188 ?_
  refine zv_sald hb v2 dL_law_189 ?_
  refine zv_aload_n dL_law_190 rfl ?_
  refine zv_iload_n dL_law_191 rfl ?_
  refine zv_iconstv (v := 3) dL_law_192 (by decide) ?_
  refine zv_iadd dL_law_193 ?_
  refine zv_sald hb v3 dL_law_194 ?_
  refine zL_M L2 zm_L_17 zkyX8_rack rfl (fun hn => cM_rack hn hi.1.1 (by have := hi.1.2; omega)) rfl rfl (Nat.le_of_ble_eq_true rfl) (by decide) dL_law_195 (fun R2 hR2 L3 => ?_)
  exact zv_icmp_eq (tgt := 1027) dL_law_198 (by decide) (fun _ => K _ _ _ _ hR2 L3) (fun c => absurd rfl c)
set_option maxRecDepth 20000 in
theorem law_hang (hb : zg_s G < zg_B G) (v1 : vp_in (i + 1) (zg_L G)) (v2 : vp_in (i + 2) (zg_L G)) (v3 : vp_in (i + 3) (zg_L G)) (v4 : vp_in (i + 4) (zg_L G)) (v5 : vp_in (i + 5) (zg_L G)) (he : f = ms G f σ) (h : cP G f nn σ R P ra pa) (hi : iv σ R P N D) (hR : R + 1 ≤ 4000) (K : ∀ (f1 : Nat → va_E) (n1 : Nat) (σ1 : sg) (R1 : Nat), R1 ≤ R + 1 → LI G f1 n1 σ1 R1 → zv G l ⟨RL, nm, ds⟩ cL_law 4 (some .boolean) 7 mc ms0 1027 [(3, .int i), (2, .ref (zg_B G + 18)), (1, .ref (zg_B G)), (0, .ref (zg_s G))] [] (f1, n1) Q) : zv G l ⟨RL, nm, ds⟩ cL_law 4 (some .boolean) 7 (2 + mc) (19 + ms0) 203 [(3, .int i), (2, .ref (zg_B G + 18)), (1, .ref (zg_B G)), (0, .ref (zg_s G))] [] (f, nn) Q := by
  refine zv_more (0 + mc) (0 + ms0) (by omega) (by omega) ?_
  refine zv_aload_n dL_law_203 rfl ?_
  refine zv_aload_n dL_law_204 rfl ?_
  refine zv_iload_n dL_law_205 rfl ?_
  refine zv_iconstv (v := 1) dL_law_206 (by decide) ?_
  refine zv_iadd dL_law_207 ?_
  refine zv_sald hb v1 dL_law_208 ?_
  refine zL_X he h zm_L_18 zkyX7_hang rfl (cZ_of (iv_hang hi _) (xX_hang h hi)) rfl rfl (Nat.le_of_ble_eq_true rfl) (by decide) dL_law_209 (fun f1 n1 L2 => ?_)
  refine zv_aload_n dL_law_212 rfl ?_
  refine zv_aload_n dL_law_213 rfl ?_
  refine zv_iload_n dL_law_214 rfl ?_
  refine zv_iconstv (v := 1) dL_law_215 (by decide) ?_
  refine zv_iadd dL_law_216 ?_
  refine zv_sald hb v1 dL_law_217 ?_
  refine zL_M L2 zm_L_22 zkyX8_hang rfl (fun hn => cM_hang hn) rfl rfl (Nat.le_of_ble_eq_true rfl) (by decide) dL_law_218 (fun R2 hR2 L3 => ?_)
  exact zv_icmp_eq (tgt := 1027) dL_law_221 (by decide) (fun _ => K _ _ _ _ hR2 L3) (fun c => absurd rfl c)
set_option maxRecDepth 20000 in
theorem law_share (hb : zg_s G < zg_B G) (v1 : vp_in (i + 1) (zg_L G)) (v2 : vp_in (i + 2) (zg_L G)) (v3 : vp_in (i + 3) (zg_L G)) (v4 : vp_in (i + 4) (zg_L G)) (v5 : vp_in (i + 5) (zg_L G)) (he : f = ms G f σ) (h : cP G f nn σ R P ra pa) (hi : iv σ R P N D) (hR : R + 1 ≤ 4000) (K : ∀ (f1 : Nat → va_E) (n1 : Nat) (σ1 : sg) (R1 : Nat), R1 ≤ R + 1 → LI G f1 n1 σ1 R1 → zv G l ⟨RL, nm, ds⟩ cL_law 4 (some .boolean) 7 mc ms0 1027 [(3, .int i), (2, .ref (zg_B G + 18)), (1, .ref (zg_B G)), (0, .ref (zg_s G))] [] (f1, n1) Q) : zv G l ⟨RL, nm, ds⟩ cL_law 4 (some .boolean) 7 (2 + mc) (19 + ms0) 226 [(3, .int i), (2, .ref (zg_B G + 18)), (1, .ref (zg_B G)), (0, .ref (zg_s G))] [] (f, nn) Q := by
  refine zv_more (0 + mc) (0 + ms0) (by omega) (by omega) ?_
  refine zv_aload_n dL_law_226 rfl ?_
  refine zv_aload_n dL_law_227 rfl ?_
  refine zv_iload_n dL_law_228 rfl ?_
  refine zv_iconstv (v := 1) dL_law_229 (by decide) ?_
  refine zv_iadd dL_law_230 ?_
  refine zv_sald hb v1 dL_law_231 ?_
  refine zv_aload_n dL_law_232 rfl ?_
  refine zv_iload_n dL_law_233 rfl ?_
  refine zv_iconstv (v := 2) dL_law_234 (by decide) ?_
  refine zv_iadd dL_law_235 ?_
  refine zv_sald hb v2 dL_law_236 ?_
  refine zL_X he h zm_L_23 zkyX7_share rfl (cZ_of (iv_share hi _ _) (xX_share h hi)) rfl rfl (Nat.le_of_ble_eq_true rfl) (by decide) dL_law_237 (fun f1 n1 L2 => ?_)
  refine zv_aload_n dL_law_240 rfl ?_
  refine zv_aload_n dL_law_241 rfl ?_
  refine zv_iload_n dL_law_242 rfl ?_
  refine zv_iconstv (v := 1) dL_law_243 (by decide) ?_
  refine zv_iadd dL_law_244 ?_
  refine zv_sald hb v1 dL_law_245 ?_
  refine zv_aload_n dL_law_246 rfl ?_
  refine zv_iload_n dL_law_247 rfl ?_
  refine zv_iconstv (v := 2) dL_law_248 (by decide) ?_
  refine zv_iadd dL_law_249 ?_
  refine zv_sald hb v2 dL_law_250 ?_
  refine zL_M L2 zm_L_27 zkyX8_share rfl (fun hn => cM_share hn) rfl rfl (Nat.le_of_ble_eq_true rfl) (by decide) dL_law_251 (fun R2 hR2 L3 => ?_)
  exact zv_icmp_eq (tgt := 1027) dL_law_254 (by decide) (fun _ => K _ _ _ _ hR2 L3) (fun c => absurd rfl c)
set_option maxRecDepth 20000 in
theorem law_empty (hb : zg_s G < zg_B G) (v1 : vp_in (i + 1) (zg_L G)) (v2 : vp_in (i + 2) (zg_L G)) (v3 : vp_in (i + 3) (zg_L G)) (v4 : vp_in (i + 4) (zg_L G)) (v5 : vp_in (i + 5) (zg_L G)) (he : f = ms G f σ) (h : cP G f nn σ R P ra pa) (hi : iv σ R P N D) (hR : R + 1 ≤ 4000) (K : ∀ (f1 : Nat → va_E) (n1 : Nat) (σ1 : sg) (R1 : Nat), R1 ≤ R + 1 → LI G f1 n1 σ1 R1 → zv G l ⟨RL, nm, ds⟩ cL_law 4 (some .boolean) 7 mc ms0 1027 [(3, .int i), (2, .ref (zg_B G + 18)), (1, .ref (zg_B G)), (0, .ref (zg_s G))] [] (f1, n1) Q) : zv G l ⟨RL, nm, ds⟩ cL_law 4 (some .boolean) 7 (2 + mc) (19 + ms0) 259 [(3, .int i), (2, .ref (zg_B G + 18)), (1, .ref (zg_B G)), (0, .ref (zg_s G))] [] (f, nn) Q := by
  refine zv_more (0 + mc) (0 + ms0) (by omega) (by omega) ?_
  refine zv_aload_n dL_law_259 rfl ?_
  refine zv_aload_n dL_law_260 rfl ?_
  refine zv_iload_n dL_law_261 rfl ?_
  refine zv_iconstv (v := 1) dL_law_262 (by decide) ?_
  refine zv_iadd dL_law_263 ?_
  refine zv_sald hb v1 dL_law_264 ?_
  refine zL_X he h zm_L_28 zkyX7_empty rfl (cZ_of (iv_empty hi _) (xX_empty h hi)) rfl rfl (Nat.le_of_ble_eq_true rfl) (by decide) dL_law_265 (fun f1 n1 L2 => ?_)
  refine zv_aload_n dL_law_268 rfl ?_
  refine zv_aload_n dL_law_269 rfl ?_
  refine zv_iload_n dL_law_270 rfl ?_
  refine zv_iconstv (v := 1) dL_law_271 (by decide) ?_
  refine zv_iadd dL_law_272 ?_
  refine zv_sald hb v1 dL_law_273 ?_
  refine zL_M L2 zm_L_31 zkyX8_empty rfl (fun hn => cM_empty hn) rfl rfl (Nat.le_of_ble_eq_true rfl) (by decide) dL_law_274 (fun R2 hR2 L3 => ?_)
  exact zv_icmp_eq (tgt := 1027) dL_law_277 (by decide) (fun _ => K _ _ _ _ hR2 L3) (fun c => absurd rfl c)
set_option maxRecDepth 20000 in
theorem law_gauge (hb : zg_s G < zg_B G) (v1 : vp_in (i + 1) (zg_L G)) (v2 : vp_in (i + 2) (zg_L G)) (v3 : vp_in (i + 3) (zg_L G)) (v4 : vp_in (i + 4) (zg_L G)) (v5 : vp_in (i + 5) (zg_L G)) (he : f = ms G f σ) (h : cP G f nn σ R P ra pa) (hi : iv σ R P N D) (hR : R + 1 ≤ 4000) (K : ∀ (f1 : Nat → va_E) (n1 : Nat) (σ1 : sg) (R1 : Nat), R1 ≤ R + 1 → LI G f1 n1 σ1 R1 → zv G l ⟨RL, nm, ds⟩ cL_law 4 (some .boolean) 7 mc ms0 1027 [(3, .int i), (2, .ref (zg_B G + 18)), (1, .ref (zg_B G)), (0, .ref (zg_s G))] [] (f1, n1) Q) : zv G l ⟨RL, nm, ds⟩ cL_law 4 (some .boolean) 7 (2 + mc) (19 + ms0) 282 [(3, .int i), (2, .ref (zg_B G + 18)), (1, .ref (zg_B G)), (0, .ref (zg_s G))] [] (f, nn) Q := by
  refine zv_more (0 + mc) (0 + ms0) (by omega) (by omega) ?_
  refine zv_aload_n dL_law_282 rfl ?_
  refine zv_aload_n dL_law_283 rfl ?_
  refine zv_iload_n dL_law_284 rfl ?_
  refine zv_iconstv (v := 1) dL_law_285 (by decide) ?_
  refine zv_iadd dL_law_286 ?_
  refine zv_sald hb v1 dL_law_287 ?_
  refine zv_aload_n dL_law_288 rfl ?_
  refine zv_iload_n dL_law_289 rfl ?_
  refine zv_iconstv (v := 2) dL_law_290 (by decide) ?_
  refine zv_iadd dL_law_291 ?_
  refine zv_sald hb v2 dL_law_292 ?_
  refine zv_i2l dL_law_293 ?_
  refine zv_bipushv (v := 32) dL_law_294 (by decide) ?_
  refine zv_lshl dL_law_296 ?_
  refine zv_aload_n dL_law_297 rfl ?_
  refine zv_iload_n dL_law_298 rfl ?_
  refine zv_iconstv (v := 3) dL_law_299 (by decide) ?_
  refine zv_iadd dL_law_300 ?_
  refine zv_sald hb v3 dL_law_301 ?_
  refine zv_i2l dL_law_302 ?_
  refine zv_ldc2 dL_law_303 zq_L_32 ?_
  refine zv_land dL_law_306 ?_
  refine zv_lor dL_law_307 ?_
  refine zL_X he h zm_L_34 zkyX7_gauge rfl (cZ_of (iv_gauge hi _ _) (xX_gauge h hi)) rfl rfl (Nat.le_of_ble_eq_true rfl) (by decide) dL_law_308 (fun f1 n1 L2 => ?_)
  refine zv_aload_n dL_law_311 rfl ?_
  refine zv_aload_n dL_law_312 rfl ?_
  refine zv_iload_n dL_law_313 rfl ?_
  refine zv_iconstv (v := 1) dL_law_314 (by decide) ?_
  refine zv_iadd dL_law_315 ?_
  refine zv_sald hb v1 dL_law_316 ?_
  refine zv_aload_n dL_law_317 rfl ?_
  refine zv_iload_n dL_law_318 rfl ?_
  refine zv_iconstv (v := 2) dL_law_319 (by decide) ?_
  refine zv_iadd dL_law_320 ?_
  refine zv_sald hb v2 dL_law_321 ?_
  refine zv_i2l dL_law_322 ?_
  refine zv_bipushv (v := 32) dL_law_323 (by decide) ?_
  refine zv_lshl dL_law_325 ?_
  refine zv_aload_n dL_law_326 rfl ?_
  refine zv_iload_n dL_law_327 rfl ?_
  refine zv_iconstv (v := 3) dL_law_328 (by decide) ?_
  refine zv_iadd dL_law_329 ?_
  refine zv_sald hb v3 dL_law_330 ?_
  refine zv_i2l dL_law_331 ?_
  refine zv_ldc2 dL_law_332 zq_L_32 ?_
  refine zv_land dL_law_335 ?_
  refine zv_lor dL_law_336 ?_
  refine zL_M L2 zm_L_38 zkyX8_gauge rfl (fun hn => cM_gauge hn) rfl rfl (Nat.le_of_ble_eq_true rfl) (by decide) dL_law_337 (fun R2 hR2 L3 => ?_)
  exact zv_icmp_eq (tgt := 1027) dL_law_340 (by decide) (fun _ => K _ _ _ _ hR2 L3) (fun c => absurd rfl c)
set_option maxRecDepth 20000 in
theorem law_probe (hb : zg_s G < zg_B G) (v1 : vp_in (i + 1) (zg_L G)) (v2 : vp_in (i + 2) (zg_L G)) (v3 : vp_in (i + 3) (zg_L G)) (v4 : vp_in (i + 4) (zg_L G)) (v5 : vp_in (i + 5) (zg_L G)) (he : f = ms G f σ) (h : cP G f nn σ R P ra pa) (hi : iv σ R P N D) (hR : R + 1 ≤ 4000) (K : ∀ (f1 : Nat → va_E) (n1 : Nat) (σ1 : sg) (R1 : Nat), R1 ≤ R + 1 → LI G f1 n1 σ1 R1 → zv G l ⟨RL, nm, ds⟩ cL_law 4 (some .boolean) 7 mc ms0 1027 [(3, .int i), (2, .ref (zg_B G + 18)), (1, .ref (zg_B G)), (0, .ref (zg_s G))] [] (f1, n1) Q) : zv G l ⟨RL, nm, ds⟩ cL_law 4 (some .boolean) 7 (2 + mc) (19 + ms0) 345 [(3, .int i), (2, .ref (zg_B G + 18)), (1, .ref (zg_B G)), (0, .ref (zg_s G))] [] (f, nn) Q := by
  refine zv_more (1 + mc) (2 + ms0) (by omega) (by omega) ?_
  refine zv_aload_n dL_law_345 rfl ?_
  refine zv_aload_n dL_law_346 rfl ?_
  refine zv_iload_n dL_law_347 rfl ?_
  refine zv_iconstv (v := 1) dL_law_348 (by decide) ?_
  refine zv_iadd dL_law_349 ?_
  refine zv_sald hb v1 dL_law_350 ?_
  refine zv_if_eq (tgt := 358) dL_law_351 (by decide) (fun cb => ?_) (fun cb => ?_)
  · skip
    refine zv_iconstv (v := 0) dL_law_358 (by decide) ?_
    refine zL_X he h zm_L_39 zkyX7_probe rfl (xX_probe h hi (b := 0) rfl rfl) rfl rfl (Nat.le_of_ble_eq_true rfl) (by decide) dL_law_359 (fun f1 n1 L2 => ?_)
    refine zv_aload_n dL_law_362 rfl ?_
    refine zv_aload_n dL_law_363 rfl ?_
    refine zv_iload_n dL_law_364 rfl ?_
    refine zv_iconstv (v := 1) dL_law_365 (by decide) ?_
    refine zv_iadd dL_law_366 ?_
    refine zv_sald hb v1 dL_law_367 ?_
    refine zv_if_eq (tgt := 375) dL_law_368 (by decide) (fun _ => ?_) (fun c => absurd cb c)
    refine zv_iconstv (v := 0) dL_law_375 (by decide) ?_
    refine zL_M L2 zm_L_43 zkyX8_probe rfl (fun hn => cM_probe hn (b := 0) rfl (m_probe hi)) rfl rfl (Nat.le_of_ble_eq_true rfl) (by decide) dL_law_376 (fun R2 hR2 L3 => ?_)
    exact zv_icmp_eq (tgt := 1027) dL_law_379 (by decide) (fun _ => K _ _ _ _ hR2 L3) (fun c => absurd rfl c)
  · skip
    refine zv_iconstv (v := 1) dL_law_354 (by decide) ?_
    refine zv_goto (tgt := 359) dL_law_355 (by decide) ?_
    refine zL_X he h zm_L_39 zkyX7_probe rfl (xX_probe h hi (b := 1) rfl rfl) rfl rfl (Nat.le_of_ble_eq_true rfl) (by decide) dL_law_359 (fun f1 n1 L2 => ?_)
    refine zv_aload_n dL_law_362 rfl ?_
    refine zv_aload_n dL_law_363 rfl ?_
    refine zv_iload_n dL_law_364 rfl ?_
    refine zv_iconstv (v := 1) dL_law_365 (by decide) ?_
    refine zv_iadd dL_law_366 ?_
    refine zv_sald hb v1 dL_law_367 ?_
    refine zv_if_eq (tgt := 375) dL_law_368 (by decide) (fun c => absurd c cb) (fun _ => ?_)
    refine zv_iconstv (v := 1) dL_law_371 (by decide) ?_
    refine zv_goto (tgt := 376) dL_law_372 (by decide) ?_
    refine zL_M L2 zm_L_43 zkyX8_probe rfl (fun hn => cM_probe hn (b := 1) rfl (m_probe hi)) rfl rfl (Nat.le_of_ble_eq_true rfl) (by decide) dL_law_376 (fun R2 hR2 L3 => ?_)
    exact zv_icmp_eq (tgt := 1027) dL_law_379 (by decide) (fun _ => K _ _ _ _ hR2 L3) (fun c => absurd rfl c)
set_option maxRecDepth 20000 in
theorem law_line (hb : zg_s G < zg_B G) (v1 : vp_in (i + 1) (zg_L G)) (v2 : vp_in (i + 2) (zg_L G)) (v3 : vp_in (i + 3) (zg_L G)) (v4 : vp_in (i + 4) (zg_L G)) (v5 : vp_in (i + 5) (zg_L G)) (he : f = ms G f σ) (h : cP G f nn σ R P ra pa) (hi : iv σ R P N D) (hR : R + 1 ≤ 4000) (K : ∀ (f1 : Nat → va_E) (n1 : Nat) (σ1 : sg) (R1 : Nat), R1 ≤ R + 1 → LI G f1 n1 σ1 R1 → zv G l ⟨RL, nm, ds⟩ cL_law 4 (some .boolean) 7 mc ms0 1027 [(3, .int i), (2, .ref (zg_B G + 18)), (1, .ref (zg_B G)), (0, .ref (zg_s G))] [] (f1, n1) Q) : zv G l ⟨RL, nm, ds⟩ cL_law 4 (some .boolean) 7 (2 + mc) (19 + ms0) 384 [(3, .int i), (2, .ref (zg_B G + 18)), (1, .ref (zg_B G)), (0, .ref (zg_s G))] [] (f, nn) Q := by
  refine zv_more (2 + mc) (19 + ms0) (by omega) (by omega) ?_
  refine zv_aload_n dL_law_384 rfl ?_
  refine zv_aload_n dL_law_385 rfl ?_
  refine zv_iload_n dL_law_386 rfl ?_
  refine zv_iconstv (v := 1) dL_law_387 (by decide) ?_
  refine zv_iadd dL_law_388 ?_
  refine zv_sald hb v1 dL_law_389 ?_
  refine zL_X he h zm_L_44 zkyX7_line rfl (xX_line h hi hR) rfl rfl (Nat.le_of_ble_eq_true rfl) (by decide) dL_law_390 (fun f1 n1 L2 => ?_)
  refine zv_aload_n dL_law_393 rfl ?_
  refine zv_aload_n dL_law_394 rfl ?_
  refine zv_iload_n dL_law_395 rfl ?_
  refine zv_iconstv (v := 1) dL_law_396 (by decide) ?_
  refine zv_iadd dL_law_397 ?_
  refine zv_sald hb v1 dL_law_398 ?_
  refine zL_M L2 zm_L_47 zkyX8_line rfl (fun hn => cM_line hn hi.1.1 (by have := hi.1.2; omega)) rfl rfl (Nat.le_of_ble_eq_true rfl) (by decide) dL_law_399 (fun R2 hR2 L3 => ?_)
  exact zv_icmp_eq (tgt := 1027) dL_law_402 (by decide) (fun _ => K _ _ _ _ hR2 L3) (fun c => absurd rfl c)
set_option maxRecDepth 20000 in
theorem law_none (hb : zg_s G < zg_B G) (v1 : vp_in (i + 1) (zg_L G)) (v2 : vp_in (i + 2) (zg_L G)) (v3 : vp_in (i + 3) (zg_L G)) (v4 : vp_in (i + 4) (zg_L G)) (v5 : vp_in (i + 5) (zg_L G)) (he : f = ms G f σ) (h : cP G f nn σ R P ra pa) (hi : iv σ R P N D) (hR : R + 1 ≤ 4000) (K : ∀ (f1 : Nat → va_E) (n1 : Nat) (σ1 : sg) (R1 : Nat), R1 ≤ R + 1 → LI G f1 n1 σ1 R1 → zv G l ⟨RL, nm, ds⟩ cL_law 4 (some .boolean) 7 mc ms0 1027 [(3, .int i), (2, .ref (zg_B G + 18)), (1, .ref (zg_B G)), (0, .ref (zg_s G))] [] (f1, n1) Q) : zv G l ⟨RL, nm, ds⟩ cL_law 4 (some .boolean) 7 (2 + mc) (19 + ms0) 407 [(3, .int i), (2, .ref (zg_B G + 18)), (1, .ref (zg_B G)), (0, .ref (zg_s G))] [] (f, nn) Q := by
  refine zv_more (0 + mc) (0 + ms0) (by omega) (by omega) ?_
  refine zv_aload_n dL_law_407 rfl ?_
  refine zL_X he h zm_L_48 zkyX7_none rfl (cZ_of (iv_none hi) (xX_none h hi)) rfl rfl (Nat.le_of_ble_eq_true rfl) (by decide) dL_law_408 (fun f1 n1 L2 => ?_)
  refine zv_aload_n dL_law_411 rfl ?_
  refine zL_M L2 zm_L_52 zkyX8_none rfl (fun hn => cM_none hn) rfl rfl (Nat.le_of_ble_eq_true rfl) (by decide) dL_law_412 (fun R2 hR2 L3 => ?_)
  exact zv_icmp_eq (tgt := 1027) dL_law_415 (by decide) (fun _ => K _ _ _ _ hR2 L3) (fun c => absurd rfl c)
set_option maxRecDepth 20000 in
theorem law_get (hb : zg_s G < zg_B G) (v1 : vp_in (i + 1) (zg_L G)) (v2 : vp_in (i + 2) (zg_L G)) (v3 : vp_in (i + 3) (zg_L G)) (v4 : vp_in (i + 4) (zg_L G)) (v5 : vp_in (i + 5) (zg_L G)) (he : f = ms G f σ) (h : cP G f nn σ R P ra pa) (hi : iv σ R P N D) (hR : R + 1 ≤ 4000) (K : ∀ (f1 : Nat → va_E) (n1 : Nat) (σ1 : sg) (R1 : Nat), R1 ≤ R + 1 → LI G f1 n1 σ1 R1 → zv G l ⟨RL, nm, ds⟩ cL_law 4 (some .boolean) 7 mc ms0 1027 [(3, .int i), (2, .ref (zg_B G + 18)), (1, .ref (zg_B G)), (0, .ref (zg_s G))] [] (f1, n1) Q) : zv G l ⟨RL, nm, ds⟩ cL_law 4 (some .boolean) 7 (2 + mc) (19 + ms0) 420 [(3, .int i), (2, .ref (zg_B G + 18)), (1, .ref (zg_B G)), (0, .ref (zg_s G))] [] (f, nn) Q := by
  refine zv_more (0 + mc) (0 + ms0) (by omega) (by omega) ?_
  refine zv_aload_n dL_law_420 rfl ?_
  refine zv_aload_n dL_law_421 rfl ?_
  refine zv_iload_n dL_law_422 rfl ?_
  refine zv_iconstv (v := 1) dL_law_423 (by decide) ?_
  refine zv_iadd dL_law_424 ?_
  refine zv_sald hb v1 dL_law_425 ?_
  refine zv_aload_n dL_law_426 rfl ?_
  refine zv_iload_n dL_law_427 rfl ?_
  refine zv_iconstv (v := 2) dL_law_428 (by decide) ?_
  refine zv_iadd dL_law_429 ?_
  refine zv_sald hb v2 dL_law_430 ?_
  refine zL_X he h zm_L_53 zkyX7_get rfl (cZ_of (iv_get hi _ _) (xX_get h hi)) rfl rfl (Nat.le_of_ble_eq_true rfl) (by decide) dL_law_431 (fun f1 n1 L2 => ?_)
  refine zv_aload_n dL_law_434 rfl ?_
  refine zv_aload_n dL_law_435 rfl ?_
  refine zv_iload_n dL_law_436 rfl ?_
  refine zv_iconstv (v := 1) dL_law_437 (by decide) ?_
  refine zv_iadd dL_law_438 ?_
  refine zv_sald hb v1 dL_law_439 ?_
  refine zv_aload_n dL_law_440 rfl ?_
  refine zv_iload_n dL_law_441 rfl ?_
  refine zv_iconstv (v := 2) dL_law_442 (by decide) ?_
  refine zv_iadd dL_law_443 ?_
  refine zv_sald hb v2 dL_law_444 ?_
  refine zL_M L2 zm_L_56 zkyX8_get rfl (fun hn => cM_get hn (okG_of hi)) rfl rfl (Nat.le_of_ble_eq_true rfl) (by decide) dL_law_445 (fun R2 hR2 L3 => ?_)
  exact zv_icmp_eq (tgt := 1027) dL_law_448 (by decide) (fun _ => K _ _ _ _ hR2 L3) (fun c => absurd rfl c)
set_option maxRecDepth 20000 in
theorem law_set (hb : zg_s G < zg_B G) (v1 : vp_in (i + 1) (zg_L G)) (v2 : vp_in (i + 2) (zg_L G)) (v3 : vp_in (i + 3) (zg_L G)) (v4 : vp_in (i + 4) (zg_L G)) (v5 : vp_in (i + 5) (zg_L G)) (he : f = ms G f σ) (h : cP G f nn σ R P ra pa) (hi : iv σ R P N D) (hR : R + 1 ≤ 4000) (K : ∀ (f1 : Nat → va_E) (n1 : Nat) (σ1 : sg) (R1 : Nat), R1 ≤ R + 1 → LI G f1 n1 σ1 R1 → zv G l ⟨RL, nm, ds⟩ cL_law 4 (some .boolean) 7 mc ms0 1027 [(3, .int i), (2, .ref (zg_B G + 18)), (1, .ref (zg_B G)), (0, .ref (zg_s G))] [] (f1, n1) Q) : zv G l ⟨RL, nm, ds⟩ cL_law 4 (some .boolean) 7 (2 + mc) (19 + ms0) 453 [(3, .int i), (2, .ref (zg_B G + 18)), (1, .ref (zg_B G)), (0, .ref (zg_s G))] [] (f, nn) Q := by
  refine zv_more (0 + mc) (0 + ms0) (by omega) (by omega) ?_
  refine zv_aload_n dL_law_453 rfl ?_
  refine zv_aload_n dL_law_454 rfl ?_
  refine zv_iload_n dL_law_455 rfl ?_
  refine zv_iconstv (v := 1) dL_law_456 (by decide) ?_
  refine zv_iadd dL_law_457 ?_
  refine zv_sald hb v1 dL_law_458 ?_
  refine zv_aload_n dL_law_459 rfl ?_
  refine zv_iload_n dL_law_460 rfl ?_
  refine zv_iconstv (v := 2) dL_law_461 (by decide) ?_
  refine zv_iadd dL_law_462 ?_
  refine zv_sald hb v2 dL_law_463 ?_
  refine zL_X he h zm_L_57 zkyX7_set rfl (cZ_of (iv_sett hi _ _) (xX_set h hi)) rfl rfl (Nat.le_of_ble_eq_true rfl) (by decide) dL_law_464 (fun f1 n1 L2 => ?_)
  refine zv_aload_n dL_law_467 rfl ?_
  refine zv_aload_n dL_law_468 rfl ?_
  refine zv_iload_n dL_law_469 rfl ?_
  refine zv_iconstv (v := 1) dL_law_470 (by decide) ?_
  refine zv_iadd dL_law_471 ?_
  refine zv_sald hb v1 dL_law_472 ?_
  refine zv_aload_n dL_law_473 rfl ?_
  refine zv_iload_n dL_law_474 rfl ?_
  refine zv_iconstv (v := 2) dL_law_475 (by decide) ?_
  refine zv_iadd dL_law_476 ?_
  refine zv_sald hb v2 dL_law_477 ?_
  refine zL_M L2 zm_L_60 zkyX8_set rfl (fun hn => cM_set hn (okG_of hi)) rfl rfl (Nat.le_of_ble_eq_true rfl) (by decide) dL_law_478 (fun R2 hR2 L3 => ?_)
  exact zv_icmp_eq (tgt := 1027) dL_law_481 (by decide) (fun _ => K _ _ _ _ hR2 L3) (fun c => absurd rfl c)
set_option maxRecDepth 20000 in
theorem law_read (hb : zg_s G < zg_B G) (v1 : vp_in (i + 1) (zg_L G)) (v2 : vp_in (i + 2) (zg_L G)) (v3 : vp_in (i + 3) (zg_L G)) (v4 : vp_in (i + 4) (zg_L G)) (v5 : vp_in (i + 5) (zg_L G)) (he : f = ms G f σ) (h : cP G f nn σ R P ra pa) (hi : iv σ R P N D) (hR : R + 1 ≤ 4000) (K : ∀ (f1 : Nat → va_E) (n1 : Nat) (σ1 : sg) (R1 : Nat), R1 ≤ R + 1 → LI G f1 n1 σ1 R1 → zv G l ⟨RL, nm, ds⟩ cL_law 4 (some .boolean) 7 mc ms0 1027 [(3, .int i), (2, .ref (zg_B G + 18)), (1, .ref (zg_B G)), (0, .ref (zg_s G))] [] (f1, n1) Q) : zv G l ⟨RL, nm, ds⟩ cL_law 4 (some .boolean) 7 (2 + mc) (19 + ms0) 486 [(3, .int i), (2, .ref (zg_B G + 18)), (1, .ref (zg_B G)), (0, .ref (zg_s G))] [] (f, nn) Q := by
  refine zv_more (0 + mc) (0 + ms0) (by omega) (by omega) ?_
  refine zv_aload_n dL_law_486 rfl ?_
  refine zv_aload_n dL_law_487 rfl ?_
  refine zv_iload_n dL_law_488 rfl ?_
  refine zv_iconstv (v := 1) dL_law_489 (by decide) ?_
  refine zv_iadd dL_law_490 ?_
  refine zv_sald hb v1 dL_law_491 ?_
  refine zv_aload_n dL_law_492 rfl ?_
  refine zv_iload_n dL_law_493 rfl ?_
  refine zv_iconstv (v := 2) dL_law_494 (by decide) ?_
  refine zv_iadd dL_law_495 ?_
  refine zv_sald hb v2 dL_law_496 ?_
  refine zv_aload_n dL_law_497 rfl ?_
  refine zv_iload_n dL_law_498 rfl ?_
  refine zv_iconstv (v := 3) dL_law_499 (by decide) ?_
  refine zv_iadd dL_law_500 ?_
  refine zv_sald hb v3 dL_law_501 ?_
  refine zL_X he h zm_L_61 zkyX7_read rfl (cZ_of (iv_read hi _ _ _) (xX_read h hi)) rfl rfl (Nat.le_of_ble_eq_true rfl) (by decide) dL_law_502 (fun f1 n1 L2 => ?_)
  refine zv_aload_n dL_law_505 rfl ?_
  refine zv_aload_n dL_law_506 rfl ?_
  refine zv_iload_n dL_law_507 rfl ?_
  refine zv_iconstv (v := 1) dL_law_508 (by decide) ?_
  refine zv_iadd dL_law_509 ?_
  refine zv_sald hb v1 dL_law_510 ?_
  refine zv_aload_n dL_law_511 rfl ?_
  refine zv_iload_n dL_law_512 rfl ?_
  refine zv_iconstv (v := 2) dL_law_513 (by decide) ?_
  refine zv_iadd dL_law_514 ?_
  refine zv_sald hb v2 dL_law_515 ?_
  refine zv_aload_n dL_law_516 rfl ?_
  refine zv_iload_n dL_law_517 rfl ?_
  refine zv_iconstv (v := 3) dL_law_518 (by decide) ?_
  refine zv_iadd dL_law_519 ?_
  refine zv_sald hb v3 dL_law_520 ?_
  refine zL_M L2 zm_L_64 zkyX8_read rfl (fun hn => cM_read hn (okG_of hi)) rfl rfl (Nat.le_of_ble_eq_true rfl) (by decide) dL_law_521 (fun R2 hR2 L3 => ?_)
  exact zv_icmp_eq (tgt := 1027) dL_law_524 (by decide) (fun _ => K _ _ _ _ hR2 L3) (fun c => absurd rfl c)
set_option maxRecDepth 20000 in
theorem law_write (hb : zg_s G < zg_B G) (v1 : vp_in (i + 1) (zg_L G)) (v2 : vp_in (i + 2) (zg_L G)) (v3 : vp_in (i + 3) (zg_L G)) (v4 : vp_in (i + 4) (zg_L G)) (v5 : vp_in (i + 5) (zg_L G)) (he : f = ms G f σ) (h : cP G f nn σ R P ra pa) (hi : iv σ R P N D) (hR : R + 1 ≤ 4000) (K : ∀ (f1 : Nat → va_E) (n1 : Nat) (σ1 : sg) (R1 : Nat), R1 ≤ R + 1 → LI G f1 n1 σ1 R1 → zv G l ⟨RL, nm, ds⟩ cL_law 4 (some .boolean) 7 mc ms0 1027 [(3, .int i), (2, .ref (zg_B G + 18)), (1, .ref (zg_B G)), (0, .ref (zg_s G))] [] (f1, n1) Q) : zv G l ⟨RL, nm, ds⟩ cL_law 4 (some .boolean) 7 (2 + mc) (19 + ms0) 529 [(3, .int i), (2, .ref (zg_B G + 18)), (1, .ref (zg_B G)), (0, .ref (zg_s G))] [] (f, nn) Q := by
  refine zv_more (0 + mc) (0 + ms0) (by omega) (by omega) ?_
  refine zv_aload_n dL_law_529 rfl ?_
  refine zv_aload_n dL_law_530 rfl ?_
  refine zv_iload_n dL_law_531 rfl ?_
  refine zv_iconstv (v := 1) dL_law_532 (by decide) ?_
  refine zv_iadd dL_law_533 ?_
  refine zv_sald hb v1 dL_law_534 ?_
  refine zv_aload_n dL_law_535 rfl ?_
  refine zv_iload_n dL_law_536 rfl ?_
  refine zv_iconstv (v := 2) dL_law_537 (by decide) ?_
  refine zv_iadd dL_law_538 ?_
  refine zv_sald hb v2 dL_law_539 ?_
  refine zv_aload_n dL_law_540 rfl ?_
  refine zv_iload_n dL_law_541 rfl ?_
  refine zv_iconstv (v := 3) dL_law_542 (by decide) ?_
  refine zv_iadd dL_law_543 ?_
  refine zv_sald hb v3 dL_law_544 ?_
  refine zL_X he h zm_L_65 zkyX7_write rfl (cZ_of (iv_write hi _ _ _) (xX_write h hi)) rfl rfl (Nat.le_of_ble_eq_true rfl) (by decide) dL_law_545 (fun f1 n1 L2 => ?_)
  refine zv_aload_n dL_law_548 rfl ?_
  refine zv_aload_n dL_law_549 rfl ?_
  refine zv_iload_n dL_law_550 rfl ?_
  refine zv_iconstv (v := 1) dL_law_551 (by decide) ?_
  refine zv_iadd dL_law_552 ?_
  refine zv_sald hb v1 dL_law_553 ?_
  refine zv_aload_n dL_law_554 rfl ?_
  refine zv_iload_n dL_law_555 rfl ?_
  refine zv_iconstv (v := 2) dL_law_556 (by decide) ?_
  refine zv_iadd dL_law_557 ?_
  refine zv_sald hb v2 dL_law_558 ?_
  refine zv_aload_n dL_law_559 rfl ?_
  refine zv_iload_n dL_law_560 rfl ?_
  refine zv_iconstv (v := 3) dL_law_561 (by decide) ?_
  refine zv_iadd dL_law_562 ?_
  refine zv_sald hb v3 dL_law_563 ?_
  refine zL_M L2 zm_L_68 zkyX8_write rfl (fun hn => cM_write hn (okG_of hi)) rfl rfl (Nat.le_of_ble_eq_true rfl) (by decide) dL_law_564 (fun R2 hR2 L3 => ?_)
  exact zv_icmp_eq (tgt := 1027) dL_law_567 (by decide) (fun _ => K _ _ _ _ hR2 L3) (fun c => absurd rfl c)
set_option maxRecDepth 20000 in
theorem law_size (hb : zg_s G < zg_B G) (v1 : vp_in (i + 1) (zg_L G)) (v2 : vp_in (i + 2) (zg_L G)) (v3 : vp_in (i + 3) (zg_L G)) (v4 : vp_in (i + 4) (zg_L G)) (v5 : vp_in (i + 5) (zg_L G)) (he : f = ms G f σ) (h : cP G f nn σ R P ra pa) (hi : iv σ R P N D) (hR : R + 1 ≤ 4000) (K : ∀ (f1 : Nat → va_E) (n1 : Nat) (σ1 : sg) (R1 : Nat), R1 ≤ R + 1 → LI G f1 n1 σ1 R1 → zv G l ⟨RL, nm, ds⟩ cL_law 4 (some .boolean) 7 mc ms0 1027 [(3, .int i), (2, .ref (zg_B G + 18)), (1, .ref (zg_B G)), (0, .ref (zg_s G))] [] (f1, n1) Q) : zv G l ⟨RL, nm, ds⟩ cL_law 4 (some .boolean) 7 (2 + mc) (19 + ms0) 572 [(3, .int i), (2, .ref (zg_B G + 18)), (1, .ref (zg_B G)), (0, .ref (zg_s G))] [] (f, nn) Q := by
  refine zv_more (0 + mc) (0 + ms0) (by omega) (by omega) ?_
  refine zv_aload_n dL_law_572 rfl ?_
  refine zv_aload_n dL_law_573 rfl ?_
  refine zv_iload_n dL_law_574 rfl ?_
  refine zv_iconstv (v := 1) dL_law_575 (by decide) ?_
  refine zv_iadd dL_law_576 ?_
  refine zv_sald hb v1 dL_law_577 ?_
  refine zL_X he h zm_L_69 zkyX7_size rfl (cZ_of (iv_size hi _) (xX_size h hi)) rfl rfl (Nat.le_of_ble_eq_true rfl) (by decide) dL_law_578 (fun f1 n1 L2 => ?_)
  refine zv_aload_n dL_law_581 rfl ?_
  refine zv_aload_n dL_law_582 rfl ?_
  refine zv_iload_n dL_law_583 rfl ?_
  refine zv_iconstv (v := 1) dL_law_584 (by decide) ?_
  refine zv_iadd dL_law_585 ?_
  refine zv_sald hb v1 dL_law_586 ?_
  refine zL_M L2 zm_L_72 zkyX8_size rfl (fun hn => cM_size hn (okG_of hi)) rfl rfl (Nat.le_of_ble_eq_true rfl) (by decide) dL_law_587 (fun R2 hR2 L3 => ?_)
  exact zv_icmp_eq (tgt := 1027) dL_law_590 (by decide) (fun _ => K _ _ _ _ hR2 L3) (fun c => absurd rfl c)
set_option maxRecDepth 20000 in
theorem law_within (hb : zg_s G < zg_B G) (v1 : vp_in (i + 1) (zg_L G)) (v2 : vp_in (i + 2) (zg_L G)) (v3 : vp_in (i + 3) (zg_L G)) (v4 : vp_in (i + 4) (zg_L G)) (v5 : vp_in (i + 5) (zg_L G)) (he : f = ms G f σ) (h : cP G f nn σ R P ra pa) (hi : iv σ R P N D) (hR : R + 1 ≤ 4000) (K : ∀ (f1 : Nat → va_E) (n1 : Nat) (σ1 : sg) (R1 : Nat), R1 ≤ R + 1 → LI G f1 n1 σ1 R1 → zv G l ⟨RL, nm, ds⟩ cL_law 4 (some .boolean) 7 mc ms0 1027 [(3, .int i), (2, .ref (zg_B G + 18)), (1, .ref (zg_B G)), (0, .ref (zg_s G))] [] (f1, n1) Q) : zv G l ⟨RL, nm, ds⟩ cL_law 4 (some .boolean) 7 (2 + mc) (19 + ms0) 595 [(3, .int i), (2, .ref (zg_B G + 18)), (1, .ref (zg_B G)), (0, .ref (zg_s G))] [] (f, nn) Q := by
  refine zv_more (0 + mc) (0 + ms0) (by omega) (by omega) ?_
  refine zv_aload_n dL_law_595 rfl ?_
  refine zv_aload_n dL_law_596 rfl ?_
  refine zv_iload_n dL_law_597 rfl ?_
  refine zv_iconstv (v := 1) dL_law_598 (by decide) ?_
  refine zv_iadd dL_law_599 ?_
  refine zv_sald hb v1 dL_law_600 ?_
  refine zv_aload_n dL_law_601 rfl ?_
  refine zv_iload_n dL_law_602 rfl ?_
  refine zv_iconstv (v := 2) dL_law_603 (by decide) ?_
  refine zv_iadd dL_law_604 ?_
  refine zv_sald hb v2 dL_law_605 ?_
  refine zv_aload_n dL_law_606 rfl ?_
  refine zv_iload_n dL_law_607 rfl ?_
  refine zv_iconstv (v := 3) dL_law_608 (by decide) ?_
  refine zv_iadd dL_law_609 ?_
  refine zv_sald hb v3 dL_law_610 ?_
  refine zL_X he h zm_L_73 zkyX7_within rfl (cZ_of (iv_within hi _ _ _) (xX_within h hi)) rfl rfl (Nat.le_of_ble_eq_true rfl) (by decide) dL_law_611 (fun f1 n1 L2 => ?_)
  refine zv_aload_n dL_law_614 rfl ?_
  refine zv_aload_n dL_law_615 rfl ?_
  refine zv_iload_n dL_law_616 rfl ?_
  refine zv_iconstv (v := 1) dL_law_617 (by decide) ?_
  refine zv_iadd dL_law_618 ?_
  refine zv_sald hb v1 dL_law_619 ?_
  refine zv_aload_n dL_law_620 rfl ?_
  refine zv_iload_n dL_law_621 rfl ?_
  refine zv_iconstv (v := 2) dL_law_622 (by decide) ?_
  refine zv_iadd dL_law_623 ?_
  refine zv_sald hb v2 dL_law_624 ?_
  refine zv_aload_n dL_law_625 rfl ?_
  refine zv_iload_n dL_law_626 rfl ?_
  refine zv_iconstv (v := 3) dL_law_627 (by decide) ?_
  refine zv_iadd dL_law_628 ?_
  refine zv_sald hb v3 dL_law_629 ?_
  refine zL_M L2 zm_L_76 zkyX8_within rfl (fun hn => cM_within hn (okG_of hi)) rfl rfl (Nat.le_of_ble_eq_true rfl) (by decide) dL_law_630 (fun R2 hR2 L3 => ?_)
  exact zv_icmp_eq (tgt := 1027) dL_law_633 (by decide) (fun _ => K _ _ _ _ hR2 L3) (fun c => absurd rfl c)
set_option maxRecDepth 20000 in
theorem law_into (hb : zg_s G < zg_B G) (v1 : vp_in (i + 1) (zg_L G)) (v2 : vp_in (i + 2) (zg_L G)) (v3 : vp_in (i + 3) (zg_L G)) (v4 : vp_in (i + 4) (zg_L G)) (v5 : vp_in (i + 5) (zg_L G)) (he : f = ms G f σ) (h : cP G f nn σ R P ra pa) (hi : iv σ R P N D) (hR : R + 1 ≤ 4000) (K : ∀ (f1 : Nat → va_E) (n1 : Nat) (σ1 : sg) (R1 : Nat), R1 ≤ R + 1 → LI G f1 n1 σ1 R1 → zv G l ⟨RL, nm, ds⟩ cL_law 4 (some .boolean) 7 mc ms0 1027 [(3, .int i), (2, .ref (zg_B G + 18)), (1, .ref (zg_B G)), (0, .ref (zg_s G))] [] (f1, n1) Q) : zv G l ⟨RL, nm, ds⟩ cL_law 4 (some .boolean) 7 (2 + mc) (19 + ms0) 638 [(3, .int i), (2, .ref (zg_B G + 18)), (1, .ref (zg_B G)), (0, .ref (zg_s G))] [] (f, nn) Q := by
  refine zv_more (0 + mc) (0 + ms0) (by omega) (by omega) ?_
  refine zv_aload_n dL_law_638 rfl ?_
  refine zv_aload_n dL_law_639 rfl ?_
  refine zv_iload_n dL_law_640 rfl ?_
  refine zv_iconstv (v := 1) dL_law_641 (by decide) ?_
  refine zv_iadd dL_law_642 ?_
  refine zv_sald hb v1 dL_law_643 ?_
  refine zv_aload_n dL_law_644 rfl ?_
  refine zv_iload_n dL_law_645 rfl ?_
  refine zv_iconstv (v := 2) dL_law_646 (by decide) ?_
  refine zv_iadd dL_law_647 ?_
  refine zv_sald hb v2 dL_law_648 ?_
  refine zv_aload_n dL_law_649 rfl ?_
  refine zv_iload_n dL_law_650 rfl ?_
  refine zv_iconstv (v := 3) dL_law_651 (by decide) ?_
  refine zv_iadd dL_law_652 ?_
  refine zv_sald hb v3 dL_law_653 ?_
  refine zv_aload_n dL_law_654 rfl ?_
  refine zv_iload_n dL_law_655 rfl ?_
  refine zv_iconstv (v := 4) dL_law_656 (by decide) ?_
  refine zv_iadd dL_law_657 ?_
  refine zv_sald hb v4 dL_law_658 ?_
  refine zL_X he h zm_L_77 zkyX7_into rfl (cZ_of (iv_into hi _ _ _ _) (xX_into h hi)) rfl rfl (Nat.le_of_ble_eq_true rfl) (by decide) dL_law_659 (fun f1 n1 L2 => ?_)
  refine zv_aload_n dL_law_662 rfl ?_
  refine zv_aload_n dL_law_663 rfl ?_
  refine zv_iload_n dL_law_664 rfl ?_
  refine zv_iconstv (v := 1) dL_law_665 (by decide) ?_
  refine zv_iadd dL_law_666 ?_
  refine zv_sald hb v1 dL_law_667 ?_
  refine zv_aload_n dL_law_668 rfl ?_
  refine zv_iload_n dL_law_669 rfl ?_
  refine zv_iconstv (v := 2) dL_law_670 (by decide) ?_
  refine zv_iadd dL_law_671 ?_
  refine zv_sald hb v2 dL_law_672 ?_
  refine zv_aload_n dL_law_673 rfl ?_
  refine zv_iload_n dL_law_674 rfl ?_
  refine zv_iconstv (v := 3) dL_law_675 (by decide) ?_
  refine zv_iadd dL_law_676 ?_
  refine zv_sald hb v3 dL_law_677 ?_
  refine zv_aload_n dL_law_678 rfl ?_
  refine zv_iload_n dL_law_679 rfl ?_
  refine zv_iconstv (v := 4) dL_law_680 (by decide) ?_
  refine zv_iadd dL_law_681 ?_
  refine zv_sald hb v4 dL_law_682 ?_
  refine zL_M L2 zm_L_81 zkyX8_into rfl (fun hn => cM_into hn (okG_of hi)) rfl rfl (Nat.le_of_ble_eq_true rfl) (by decide) dL_law_683 (fun R2 hR2 L3 => ?_)
  exact zv_icmp_eq (tgt := 1027) dL_law_686 (by decide) (fun _ => K _ _ _ _ hR2 L3) (fun c => absurd rfl c)
set_option maxRecDepth 20000 in
theorem law_pass (hb : zg_s G < zg_B G) (v1 : vp_in (i + 1) (zg_L G)) (v2 : vp_in (i + 2) (zg_L G)) (v3 : vp_in (i + 3) (zg_L G)) (v4 : vp_in (i + 4) (zg_L G)) (v5 : vp_in (i + 5) (zg_L G)) (he : f = ms G f σ) (h : cP G f nn σ R P ra pa) (hi : iv σ R P N D) (hR : R + 1 ≤ 4000) (K : ∀ (f1 : Nat → va_E) (n1 : Nat) (σ1 : sg) (R1 : Nat), R1 ≤ R + 1 → LI G f1 n1 σ1 R1 → zv G l ⟨RL, nm, ds⟩ cL_law 4 (some .boolean) 7 mc ms0 1027 [(3, .int i), (2, .ref (zg_B G + 18)), (1, .ref (zg_B G)), (0, .ref (zg_s G))] [] (f1, n1) Q) : zv G l ⟨RL, nm, ds⟩ cL_law 4 (some .boolean) 7 (2 + mc) (19 + ms0) 691 [(3, .int i), (2, .ref (zg_B G + 18)), (1, .ref (zg_B G)), (0, .ref (zg_s G))] [] (f, nn) Q := by
  refine zv_more (0 + mc) (0 + ms0) (by omega) (by omega) ?_
  refine zv_aload_n dL_law_691 rfl ?_
  refine zv_aload_n dL_law_692 rfl ?_
  refine zv_iload_n dL_law_693 rfl ?_
  refine zv_iconstv (v := 1) dL_law_694 (by decide) ?_
  refine zv_iadd dL_law_695 ?_
  refine zv_sald hb v1 dL_law_696 ?_
  refine zv_aload_n dL_law_697 rfl ?_
  refine zv_iload_n dL_law_698 rfl ?_
  refine zv_iconstv (v := 2) dL_law_699 (by decide) ?_
  refine zv_iadd dL_law_700 ?_
  refine zv_sald hb v2 dL_law_701 ?_
  refine zv_aload_n dL_law_702 rfl ?_
  refine zv_iload_n dL_law_703 rfl ?_
  refine zv_iconstv (v := 3) dL_law_704 (by decide) ?_
  refine zv_iadd dL_law_705 ?_
  refine zv_sald hb v3 dL_law_706 ?_
  refine zL_X he h zm_L_82 zkyX7_pass rfl (cZ_of (iv_pass hi _ _ _) (xX_pass h hi)) rfl rfl (Nat.le_of_ble_eq_true rfl) (by decide) dL_law_707 (fun f1 n1 L2 => ?_)
  refine zv_aload_n dL_law_710 rfl ?_
  refine zv_aload_n dL_law_711 rfl ?_
  refine zv_iload_n dL_law_712 rfl ?_
  refine zv_iconstv (v := 1) dL_law_713 (by decide) ?_
  refine zv_iadd dL_law_714 ?_
  refine zv_sald hb v1 dL_law_715 ?_
  refine zv_aload_n dL_law_716 rfl ?_
  refine zv_iload_n dL_law_717 rfl ?_
  refine zv_iconstv (v := 2) dL_law_718 (by decide) ?_
  refine zv_iadd dL_law_719 ?_
  refine zv_sald hb v2 dL_law_720 ?_
  refine zv_aload_n dL_law_721 rfl ?_
  refine zv_iload_n dL_law_722 rfl ?_
  refine zv_iconstv (v := 3) dL_law_723 (by decide) ?_
  refine zv_iadd dL_law_724 ?_
  refine zv_sald hb v3 dL_law_725 ?_
  refine zL_M L2 zm_L_85 zkyX8_pass rfl (fun hn => cM_pass hn (okG_of hi) (m_pass hi)) rfl rfl (Nat.le_of_ble_eq_true rfl) (by decide) dL_law_726 (fun R2 hR2 L3 => ?_)
  exact zv_icmp_eq (tgt := 1027) dL_law_729 (by decide) (fun _ => K _ _ _ _ hR2 L3) (fun c => absurd rfl c)
set_option maxRecDepth 20000 in
theorem law_takes (hb : zg_s G < zg_B G) (v1 : vp_in (i + 1) (zg_L G)) (v2 : vp_in (i + 2) (zg_L G)) (v3 : vp_in (i + 3) (zg_L G)) (v4 : vp_in (i + 4) (zg_L G)) (v5 : vp_in (i + 5) (zg_L G)) (he : f = ms G f σ) (h : cP G f nn σ R P ra pa) (hi : iv σ R P N D) (hR : R + 1 ≤ 4000) (K : ∀ (f1 : Nat → va_E) (n1 : Nat) (σ1 : sg) (R1 : Nat), R1 ≤ R + 1 → LI G f1 n1 σ1 R1 → zv G l ⟨RL, nm, ds⟩ cL_law 4 (some .boolean) 7 mc ms0 1027 [(3, .int i), (2, .ref (zg_B G + 18)), (1, .ref (zg_B G)), (0, .ref (zg_s G))] [] (f1, n1) Q) : zv G l ⟨RL, nm, ds⟩ cL_law 4 (some .boolean) 7 (2 + mc) (19 + ms0) 734 [(3, .int i), (2, .ref (zg_B G + 18)), (1, .ref (zg_B G)), (0, .ref (zg_s G))] [] (f, nn) Q := by
  refine zv_more (0 + mc) (0 + ms0) (by omega) (by omega) ?_
  refine zv_aload_n dL_law_734 rfl ?_
  refine zv_aload_n dL_law_735 rfl ?_
  refine zv_iload_n dL_law_736 rfl ?_
  refine zv_iconstv (v := 1) dL_law_737 (by decide) ?_
  refine zv_iadd dL_law_738 ?_
  refine zv_sald hb v1 dL_law_739 ?_
  refine zL_X he h zm_L_86 zkyX7_takes rfl (cZ_of (iv_kinds hi _) (xX_takes h hi)) rfl rfl (Nat.le_of_ble_eq_true rfl) (by decide) dL_law_740 (fun f1 n1 L2 => ?_)
  refine zv_aload_n dL_law_743 rfl ?_
  refine zv_aload_n dL_law_744 rfl ?_
  refine zv_iload_n dL_law_745 rfl ?_
  refine zv_iconstv (v := 1) dL_law_746 (by decide) ?_
  refine zv_iadd dL_law_747 ?_
  refine zv_sald hb v1 dL_law_748 ?_
  refine zL_M L2 zm_L_89 zkyX8_takes rfl (fun hn => cM_takes hn (okG_of hi)) rfl rfl (Nat.le_of_ble_eq_true rfl) (by decide) dL_law_749 (fun R2 hR2 L3 => ?_)
  exact zv_icmp_eq (tgt := 1027) dL_law_752 (by decide) (fun _ => K _ _ _ _ hR2 L3) (fun c => absurd rfl c)
set_option maxRecDepth 20000 in
theorem law_gives (hb : zg_s G < zg_B G) (v1 : vp_in (i + 1) (zg_L G)) (v2 : vp_in (i + 2) (zg_L G)) (v3 : vp_in (i + 3) (zg_L G)) (v4 : vp_in (i + 4) (zg_L G)) (v5 : vp_in (i + 5) (zg_L G)) (he : f = ms G f σ) (h : cP G f nn σ R P ra pa) (hi : iv σ R P N D) (hR : R + 1 ≤ 4000) (K : ∀ (f1 : Nat → va_E) (n1 : Nat) (σ1 : sg) (R1 : Nat), R1 ≤ R + 1 → LI G f1 n1 σ1 R1 → zv G l ⟨RL, nm, ds⟩ cL_law 4 (some .boolean) 7 mc ms0 1027 [(3, .int i), (2, .ref (zg_B G + 18)), (1, .ref (zg_B G)), (0, .ref (zg_s G))] [] (f1, n1) Q) : zv G l ⟨RL, nm, ds⟩ cL_law 4 (some .boolean) 7 (2 + mc) (19 + ms0) 757 [(3, .int i), (2, .ref (zg_B G + 18)), (1, .ref (zg_B G)), (0, .ref (zg_s G))] [] (f, nn) Q := by
  refine zv_more (0 + mc) (0 + ms0) (by omega) (by omega) ?_
  refine zv_aload_n dL_law_757 rfl ?_
  refine zv_aload_n dL_law_758 rfl ?_
  refine zv_iload_n dL_law_759 rfl ?_
  refine zv_iconstv (v := 1) dL_law_760 (by decide) ?_
  refine zv_iadd dL_law_761 ?_
  refine zv_sald hb v1 dL_law_762 ?_
  refine zL_X he h zm_L_90 zkyX7_gives rfl (cZ_of (iv_kinds hi _) (xX_gives h hi)) rfl rfl (Nat.le_of_ble_eq_true rfl) (by decide) dL_law_763 (fun f1 n1 L2 => ?_)
  refine zv_aload_n dL_law_766 rfl ?_
  refine zv_aload_n dL_law_767 rfl ?_
  refine zv_iload_n dL_law_768 rfl ?_
  refine zv_iconstv (v := 1) dL_law_769 (by decide) ?_
  refine zv_iadd dL_law_770 ?_
  refine zv_sald hb v1 dL_law_771 ?_
  refine zL_M L2 zm_L_93 zkyX8_gives rfl (fun hn => cM_gives hn (okG_of hi)) rfl rfl (Nat.le_of_ble_eq_true rfl) (by decide) dL_law_772 (fun R2 hR2 L3 => ?_)
  exact zv_icmp_eq (tgt := 1027) dL_law_775 (by decide) (fun _ => K _ _ _ _ hR2 L3) (fun c => absurd rfl c)
set_option maxRecDepth 20000 in
theorem law_step (hb : zg_s G < zg_B G) (v1 : vp_in (i + 1) (zg_L G)) (v2 : vp_in (i + 2) (zg_L G)) (v3 : vp_in (i + 3) (zg_L G)) (v4 : vp_in (i + 4) (zg_L G)) (v5 : vp_in (i + 5) (zg_L G)) (he : f = ms G f σ) (h : cP G f nn σ R P ra pa) (hi : iv σ R P N D) (hR : R + 1 ≤ 4000) (K : ∀ (f1 : Nat → va_E) (n1 : Nat) (σ1 : sg) (R1 : Nat), R1 ≤ R + 1 → LI G f1 n1 σ1 R1 → zv G l ⟨RL, nm, ds⟩ cL_law 4 (some .boolean) 7 mc ms0 1027 [(3, .int i), (2, .ref (zg_B G + 18)), (1, .ref (zg_B G)), (0, .ref (zg_s G))] [] (f1, n1) Q) : zv G l ⟨RL, nm, ds⟩ cL_law 4 (some .boolean) 7 (2 + mc) (19 + ms0) 780 [(3, .int i), (2, .ref (zg_B G + 18)), (1, .ref (zg_B G)), (0, .ref (zg_s G))] [] (f, nn) Q := by
  refine zv_more (0 + mc) (0 + ms0) (by omega) (by omega) ?_
  refine zv_aload_n dL_law_780 rfl ?_
  refine zv_aload_n dL_law_781 rfl ?_
  refine zv_iload_n dL_law_782 rfl ?_
  refine zv_iconstv (v := 1) dL_law_783 (by decide) ?_
  refine zv_iadd dL_law_784 ?_
  refine zv_sald hb v1 dL_law_785 ?_
  refine zv_aload_n dL_law_786 rfl ?_
  refine zv_iload_n dL_law_787 rfl ?_
  refine zv_iconstv (v := 2) dL_law_788 (by decide) ?_
  refine zv_iadd dL_law_789 ?_
  refine zv_sald hb v2 dL_law_790 ?_
  refine zv_aload_n dL_law_791 rfl ?_
  refine zv_iload_n dL_law_792 rfl ?_
  refine zv_iconstv (v := 3) dL_law_793 (by decide) ?_
  refine zv_iadd dL_law_794 ?_
  refine zv_sald hb v3 dL_law_795 ?_
  refine zv_aload_n dL_law_796 rfl ?_
  refine zv_iload_n dL_law_797 rfl ?_
  refine zv_iconstv (v := 4) dL_law_798 (by decide) ?_
  refine zv_iadd dL_law_799 ?_
  refine zv_sald hb v4 dL_law_800 ?_
  refine zv_aload_n dL_law_801 rfl ?_
  refine zv_iload_n dL_law_802 rfl ?_
  refine zv_iconstv (v := 5) dL_law_803 (by decide) ?_
  refine zv_iadd dL_law_804 ?_
  refine zv_sald hb v5 dL_law_805 ?_
  refine zL_X he h zm_L_94 zkyX7_step rfl (xX_step h hi) rfl rfl (Nat.le_of_ble_eq_true rfl) (by decide) dL_law_806 (fun f1 n1 L2 => ?_)
  refine zv_aload_n dL_law_809 rfl ?_
  refine zv_aload_n dL_law_810 rfl ?_
  refine zv_iload_n dL_law_811 rfl ?_
  refine zv_iconstv (v := 1) dL_law_812 (by decide) ?_
  refine zv_iadd dL_law_813 ?_
  refine zv_sald hb v1 dL_law_814 ?_
  refine zv_aload_n dL_law_815 rfl ?_
  refine zv_iload_n dL_law_816 rfl ?_
  refine zv_iconstv (v := 2) dL_law_817 (by decide) ?_
  refine zv_iadd dL_law_818 ?_
  refine zv_sald hb v2 dL_law_819 ?_
  refine zv_aload_n dL_law_820 rfl ?_
  refine zv_iload_n dL_law_821 rfl ?_
  refine zv_iconstv (v := 3) dL_law_822 (by decide) ?_
  refine zv_iadd dL_law_823 ?_
  refine zv_sald hb v3 dL_law_824 ?_
  refine zv_aload_n dL_law_825 rfl ?_
  refine zv_iload_n dL_law_826 rfl ?_
  refine zv_iconstv (v := 4) dL_law_827 (by decide) ?_
  refine zv_iadd dL_law_828 ?_
  refine zv_sald hb v4 dL_law_829 ?_
  refine zv_aload_n dL_law_830 rfl ?_
  refine zv_iload_n dL_law_831 rfl ?_
  refine zv_iconstv (v := 5) dL_law_832 (by decide) ?_
  refine zv_iadd dL_law_833 ?_
  refine zv_sald hb v5 dL_law_834 ?_
  refine zL_M L2 zm_L_98 zkyX8_step rfl (fun hn => cM_step hn (m_step hi)) rfl rfl (Nat.le_of_ble_eq_true rfl) (by decide) dL_law_835 (fun R2 hR2 L3 => ?_)
  exact zv_icmp_eq (tgt := 1027) dL_law_838 (by decide) (fun _ => K _ _ _ _ hR2 L3) (fun c => absurd rfl c)
set_option maxRecDepth 20000 in
theorem law_run (hb : zg_s G < zg_B G) (v1 : vp_in (i + 1) (zg_L G)) (v2 : vp_in (i + 2) (zg_L G)) (v3 : vp_in (i + 3) (zg_L G)) (v4 : vp_in (i + 4) (zg_L G)) (v5 : vp_in (i + 5) (zg_L G)) (he : f = ms G f σ) (h : cP G f nn σ R P ra pa) (hi : iv σ R P N D) (hR : R + 1 ≤ 4000) (K : ∀ (f1 : Nat → va_E) (n1 : Nat) (σ1 : sg) (R1 : Nat), R1 ≤ R + 1 → LI G f1 n1 σ1 R1 → zv G l ⟨RL, nm, ds⟩ cL_law 4 (some .boolean) 7 mc ms0 1027 [(3, .int i), (2, .ref (zg_B G + 18)), (1, .ref (zg_B G)), (0, .ref (zg_s G))] [] (f1, n1) Q) : zv G l ⟨RL, nm, ds⟩ cL_law 4 (some .boolean) 7 (2 + mc) (19 + ms0) 843 [(3, .int i), (2, .ref (zg_B G + 18)), (1, .ref (zg_B G)), (0, .ref (zg_s G))] [] (f, nn) Q := by
  refine zv_more (0 + mc) (0 + ms0) (by omega) (by omega) ?_
  refine zv_aload_n dL_law_843 rfl ?_
  refine zv_aload_n dL_law_844 rfl ?_
  refine zv_iload_n dL_law_845 rfl ?_
  refine zv_iconstv (v := 1) dL_law_846 (by decide) ?_
  refine zv_iadd dL_law_847 ?_
  refine zv_sald hb v1 dL_law_848 ?_
  refine zv_if_eq (tgt := 856) dL_law_849 (by decide) (fun cb => ?_) (fun cb => ?_)
  · skip
    refine zv_iconstv (v := 0) dL_law_856 (by decide) ?_
    obtain ⟨D2, hD2⟩ := iv_run hi (decide (¬ (0 : Int32) = 0))
    refine zL_X he h zm_L_99 zkyX7_run rfl (cZ_of hD2 (xX_run h hi (b := 0))) rfl rfl (Nat.le_of_ble_eq_true rfl) (by decide) dL_law_857 (fun f1 n1 L2 => ?_)
    refine zv_aload_n dL_law_860 rfl ?_
    refine zv_aload_n dL_law_861 rfl ?_
    refine zv_iload_n dL_law_862 rfl ?_
    refine zv_iconstv (v := 1) dL_law_863 (by decide) ?_
    refine zv_iadd dL_law_864 ?_
    refine zv_sald hb v1 dL_law_865 ?_
    refine zv_if_eq (tgt := 873) dL_law_866 (by decide) (fun _ => ?_) (fun c => absurd cb c)
    refine zv_iconstv (v := 0) dL_law_873 (by decide) ?_
    refine zL_M L2 zm_L_102 zkyX8_run rfl (fun hn => cM_run hn (b := 0) ivE m_runI m_run (m_run0 hi) hi.2.2.1.1 hi.2.2.1.2) rfl rfl (Nat.le_of_ble_eq_true rfl) (by decide) dL_law_874 (fun R2 hR2 L3 => ?_)
    exact zv_icmp_eq (tgt := 1027) dL_law_877 (by decide) (fun _ => K _ _ _ _ hR2 L3) (fun c => absurd rfl c)
  · skip
    refine zv_iconstv (v := 1) dL_law_852 (by decide) ?_
    refine zv_goto (tgt := 857) dL_law_853 (by decide) ?_
    obtain ⟨D2, hD2⟩ := iv_run hi (decide (¬ (1 : Int32) = 0))
    refine zL_X he h zm_L_99 zkyX7_run rfl (cZ_of hD2 (xX_run h hi (b := 1))) rfl rfl (Nat.le_of_ble_eq_true rfl) (by decide) dL_law_857 (fun f1 n1 L2 => ?_)
    refine zv_aload_n dL_law_860 rfl ?_
    refine zv_aload_n dL_law_861 rfl ?_
    refine zv_iload_n dL_law_862 rfl ?_
    refine zv_iconstv (v := 1) dL_law_863 (by decide) ?_
    refine zv_iadd dL_law_864 ?_
    refine zv_sald hb v1 dL_law_865 ?_
    refine zv_if_eq (tgt := 873) dL_law_866 (by decide) (fun c => absurd c cb) (fun _ => ?_)
    refine zv_iconstv (v := 1) dL_law_869 (by decide) ?_
    refine zv_goto (tgt := 874) dL_law_870 (by decide) ?_
    refine zL_M L2 zm_L_102 zkyX8_run rfl (fun hn => cM_run hn (b := 1) ivE m_runI m_run (m_run0 hi) hi.2.2.1.1 hi.2.2.1.2) rfl rfl (Nat.le_of_ble_eq_true rfl) (by decide) dL_law_874 (fun R2 hR2 L3 => ?_)
    exact zv_icmp_eq (tgt := 1027) dL_law_877 (by decide) (fun _ => K _ _ _ _ hR2 L3) (fun c => absurd rfl c)
set_option maxRecDepth 20000 in
theorem law_met (hb : zg_s G < zg_B G) (v1 : vp_in (i + 1) (zg_L G)) (v2 : vp_in (i + 2) (zg_L G)) (v3 : vp_in (i + 3) (zg_L G)) (v4 : vp_in (i + 4) (zg_L G)) (v5 : vp_in (i + 5) (zg_L G)) (he : f = ms G f σ) (h : cP G f nn σ R P ra pa) (hi : iv σ R P N D) (hR : R + 1 ≤ 4000) (K : ∀ (f1 : Nat → va_E) (n1 : Nat) (σ1 : sg) (R1 : Nat), R1 ≤ R + 1 → LI G f1 n1 σ1 R1 → zv G l ⟨RL, nm, ds⟩ cL_law 4 (some .boolean) 7 mc ms0 1027 [(3, .int i), (2, .ref (zg_B G + 18)), (1, .ref (zg_B G)), (0, .ref (zg_s G))] [] (f1, n1) Q) : zv G l ⟨RL, nm, ds⟩ cL_law 4 (some .boolean) 7 (2 + mc) (19 + ms0) 882 [(3, .int i), (2, .ref (zg_B G + 18)), (1, .ref (zg_B G)), (0, .ref (zg_s G))] [] (f, nn) Q := by
  refine zv_more (0 + mc) (0 + ms0) (by omega) (by omega) ?_
  refine zv_aload_n dL_law_882 rfl ?_
  refine zv_aload_n dL_law_883 rfl ?_
  refine zv_iload_n dL_law_884 rfl ?_
  refine zv_iconstv (v := 1) dL_law_885 (by decide) ?_
  refine zv_iadd dL_law_886 ?_
  refine zv_sald hb v1 dL_law_887 ?_
  refine zL_X he h zm_L_103 zkyX7_met rfl (cZ_of hi (xX_met h hi)) rfl rfl (Nat.le_of_ble_eq_true rfl) (by decide) dL_law_888 (fun f1 n1 L2 => ?_)
  refine zv_aload_n dL_law_891 rfl ?_
  refine zv_aload_n dL_law_892 rfl ?_
  refine zv_iload_n dL_law_893 rfl ?_
  refine zv_iconstv (v := 1) dL_law_894 (by decide) ?_
  refine zv_iadd dL_law_895 ?_
  refine zv_sald hb v1 dL_law_896 ?_
  refine zL_M L2 zm_L_106 zkyX8_met rfl (fun hn => cM_met hn (m_met hi)) rfl rfl (Nat.le_of_ble_eq_true rfl) (by decide) dL_law_897 (fun R2 hR2 L3 => ?_)
  exact zv_icmp_eq (tgt := 1027) dL_law_900 (by decide) (fun _ => K _ _ _ _ hR2 L3) (fun c => absurd rfl c)
set_option maxRecDepth 20000 in
theorem law_clear (hb : zg_s G < zg_B G) (v1 : vp_in (i + 1) (zg_L G)) (v2 : vp_in (i + 2) (zg_L G)) (v3 : vp_in (i + 3) (zg_L G)) (v4 : vp_in (i + 4) (zg_L G)) (v5 : vp_in (i + 5) (zg_L G)) (he : f = ms G f σ) (h : cP G f nn σ R P ra pa) (hi : iv σ R P N D) (hR : R + 1 ≤ 4000) (K : ∀ (f1 : Nat → va_E) (n1 : Nat) (σ1 : sg) (R1 : Nat), R1 ≤ R + 1 → LI G f1 n1 σ1 R1 → zv G l ⟨RL, nm, ds⟩ cL_law 4 (some .boolean) 7 mc ms0 1027 [(3, .int i), (2, .ref (zg_B G + 18)), (1, .ref (zg_B G)), (0, .ref (zg_s G))] [] (f1, n1) Q) : zv G l ⟨RL, nm, ds⟩ cL_law 4 (some .boolean) 7 (2 + mc) (19 + ms0) 905 [(3, .int i), (2, .ref (zg_B G + 18)), (1, .ref (zg_B G)), (0, .ref (zg_s G))] [] (f, nn) Q := by
  refine zv_more (0 + mc) (0 + ms0) (by omega) (by omega) ?_
  refine zv_aload_n dL_law_905 rfl ?_
  refine zL_X he h zm_L_107 zkyX7_clear rfl (cZ_of (iv_clear hi) (xX_clear h hi)) rfl rfl (Nat.le_of_ble_eq_true rfl) (by decide) dL_law_906 (fun f1 n1 L2 => ?_)
  refine zv_aload_n dL_law_909 rfl ?_
  refine zL_M L2 zm_L_110 zkyX8_clear rfl (fun hn => cM_clear hn) rfl rfl (Nat.le_of_ble_eq_true rfl) (by decide) dL_law_910 (fun R2 hR2 L3 => ?_)
  exact zv_icmp_eq (tgt := 1027) dL_law_913 (by decide) (fun _ => K _ _ _ _ hR2 L3) (fun c => absurd rfl c)
set_option maxRecDepth 20000 in
theorem law_fault (hb : zg_s G < zg_B G) (v1 : vp_in (i + 1) (zg_L G)) (v2 : vp_in (i + 2) (zg_L G)) (v3 : vp_in (i + 3) (zg_L G)) (v4 : vp_in (i + 4) (zg_L G)) (v5 : vp_in (i + 5) (zg_L G)) (he : f = ms G f σ) (h : cP G f nn σ R P ra pa) (hi : iv σ R P N D) (hR : R + 1 ≤ 4000) (K : ∀ (f1 : Nat → va_E) (n1 : Nat) (σ1 : sg) (R1 : Nat), R1 ≤ R + 1 → LI G f1 n1 σ1 R1 → zv G l ⟨RL, nm, ds⟩ cL_law 4 (some .boolean) 7 mc ms0 1027 [(3, .int i), (2, .ref (zg_B G + 18)), (1, .ref (zg_B G)), (0, .ref (zg_s G))] [] (f1, n1) Q) : zv G l ⟨RL, nm, ds⟩ cL_law 4 (some .boolean) 7 (2 + mc) (19 + ms0) 918 [(3, .int i), (2, .ref (zg_B G + 18)), (1, .ref (zg_B G)), (0, .ref (zg_s G))] [] (f, nn) Q := by
  refine zv_more (0 + mc) (0 + ms0) (by omega) (by omega) ?_
  refine zv_aload_n dL_law_918 rfl ?_
  refine zL_X he h zm_L_111 zkyX7_fault rfl (cZ_of hi (xX_fault h hi)) rfl rfl (Nat.le_of_ble_eq_true rfl) (by decide) dL_law_919 (fun f1 n1 L2 => ?_)
  refine zv_aload_n dL_law_922 rfl ?_
  refine zL_M L2 zm_L_114 zkyX8_fault rfl (fun hn => cM_fault hn) rfl rfl (Nat.le_of_ble_eq_true rfl) (by decide) dL_law_923 (fun R2 hR2 L3 => ?_)
  exact zv_icmp_eq (tgt := 1027) dL_law_926 (by decide) (fun _ => K _ _ _ _ hR2 L3) (fun c => absurd rfl c)
set_option maxRecDepth 20000 in
theorem law_faults (hb : zg_s G < zg_B G) (v1 : vp_in (i + 1) (zg_L G)) (v2 : vp_in (i + 2) (zg_L G)) (v3 : vp_in (i + 3) (zg_L G)) (v4 : vp_in (i + 4) (zg_L G)) (v5 : vp_in (i + 5) (zg_L G)) (he : f = ms G f σ) (h : cP G f nn σ R P ra pa) (hi : iv σ R P N D) (hR : R + 1 ≤ 4000) (K : ∀ (f1 : Nat → va_E) (n1 : Nat) (σ1 : sg) (R1 : Nat), R1 ≤ R + 1 → LI G f1 n1 σ1 R1 → zv G l ⟨RL, nm, ds⟩ cL_law 4 (some .boolean) 7 mc ms0 1027 [(3, .int i), (2, .ref (zg_B G + 18)), (1, .ref (zg_B G)), (0, .ref (zg_s G))] [] (f1, n1) Q) : zv G l ⟨RL, nm, ds⟩ cL_law 4 (some .boolean) 7 (2 + mc) (19 + ms0) 931 [(3, .int i), (2, .ref (zg_B G + 18)), (1, .ref (zg_B G)), (0, .ref (zg_s G))] [] (f, nn) Q := by
  refine zv_more (0 + mc) (0 + ms0) (by omega) (by omega) ?_
  refine zv_aload_n dL_law_931 rfl ?_
  refine zv_aload_n dL_law_932 rfl ?_
  refine zv_iload_n dL_law_933 rfl ?_
  refine zv_iconstv (v := 1) dL_law_934 (by decide) ?_
  refine zv_iadd dL_law_935 ?_
  refine zv_sald hb v1 dL_law_936 ?_
  refine zL_X he h zm_L_115 zkyX7_faults rfl (cZ_of hi (xX_faults h hi)) rfl rfl (Nat.le_of_ble_eq_true rfl) (by decide) dL_law_937 (fun f1 n1 L2 => ?_)
  refine zv_aload_n dL_law_940 rfl ?_
  refine zv_aload_n dL_law_941 rfl ?_
  refine zv_iload_n dL_law_942 rfl ?_
  refine zv_iconstv (v := 1) dL_law_943 (by decide) ?_
  refine zv_iadd dL_law_944 ?_
  refine zv_sald hb v1 dL_law_945 ?_
  refine zL_M L2 zm_L_118 zkyX8_faults rfl (fun hn => cM_faults hn) rfl rfl (Nat.le_of_ble_eq_true rfl) (by decide) dL_law_946 (fun R2 hR2 L3 => ?_)
  exact zv_icmp_eq (tgt := 1027) dL_law_949 (by decide) (fun _ => K _ _ _ _ hR2 L3) (fun c => absurd rfl c)
set_option maxRecDepth 20000 in
theorem law_has (hb : zg_s G < zg_B G) (v1 : vp_in (i + 1) (zg_L G)) (v2 : vp_in (i + 2) (zg_L G)) (v3 : vp_in (i + 3) (zg_L G)) (v4 : vp_in (i + 4) (zg_L G)) (v5 : vp_in (i + 5) (zg_L G)) (he : f = ms G f σ) (h : cP G f nn σ R P ra pa) (hi : iv σ R P N D) (hR : R + 1 ≤ 4000) (K : ∀ (f1 : Nat → va_E) (n1 : Nat) (σ1 : sg) (R1 : Nat), R1 ≤ R + 1 → LI G f1 n1 σ1 R1 → zv G l ⟨RL, nm, ds⟩ cL_law 4 (some .boolean) 7 mc ms0 1027 [(3, .int i), (2, .ref (zg_B G + 18)), (1, .ref (zg_B G)), (0, .ref (zg_s G))] [] (f1, n1) Q) : zv G l ⟨RL, nm, ds⟩ cL_law 4 (some .boolean) 7 (2 + mc) (19 + ms0) 954 [(3, .int i), (2, .ref (zg_B G + 18)), (1, .ref (zg_B G)), (0, .ref (zg_s G))] [] (f, nn) Q := by
  refine zv_more (0 + mc) (0 + ms0) (by omega) (by omega) ?_
  refine zv_aload_n dL_law_954 rfl ?_
  refine zL_X he h zm_L_119 zkyX7_has rfl (cZ_of hi (xX_has h hi)) rfl rfl (Nat.le_of_ble_eq_true rfl) (by decide) dL_law_955 (fun f1 n1 L2 => ?_)
  refine zv_aload_n dL_law_958 rfl ?_
  refine zL_M L2 zm_L_122 zkyX8_has rfl (fun hn => cM_has hn (okk_of hi).2.2.1) rfl rfl (Nat.le_of_ble_eq_true rfl) (by decide) dL_law_959 (fun R2 hR2 L3 => ?_)
  exact zv_icmp_eq (tgt := 1027) dL_law_962 (by decide) (fun _ => K _ _ _ _ hR2 L3) (fun c => absurd rfl c)
set_option maxRecDepth 20000 in
theorem law_value (hb : zg_s G < zg_B G) (v1 : vp_in (i + 1) (zg_L G)) (v2 : vp_in (i + 2) (zg_L G)) (v3 : vp_in (i + 3) (zg_L G)) (v4 : vp_in (i + 4) (zg_L G)) (v5 : vp_in (i + 5) (zg_L G)) (he : f = ms G f σ) (h : cP G f nn σ R P ra pa) (hi : iv σ R P N D) (hR : R + 1 ≤ 4000) (K : ∀ (f1 : Nat → va_E) (n1 : Nat) (σ1 : sg) (R1 : Nat), R1 ≤ R + 1 → LI G f1 n1 σ1 R1 → zv G l ⟨RL, nm, ds⟩ cL_law 4 (some .boolean) 7 mc ms0 1027 [(3, .int i), (2, .ref (zg_B G + 18)), (1, .ref (zg_B G)), (0, .ref (zg_s G))] [] (f1, n1) Q) : zv G l ⟨RL, nm, ds⟩ cL_law 4 (some .boolean) 7 (2 + mc) (19 + ms0) 967 [(3, .int i), (2, .ref (zg_B G + 18)), (1, .ref (zg_B G)), (0, .ref (zg_s G))] [] (f, nn) Q := by
  refine zv_more (0 + mc) (0 + ms0) (by omega) (by omega) ?_
  refine zv_aload_n dL_law_967 rfl ?_
  refine zL_X he h zm_L_123 zkyX7_value rfl (cZ_of hi (xX_value h hi)) rfl rfl (Nat.le_of_ble_eq_true rfl) (by decide) dL_law_968 (fun f1 n1 L2 => ?_)
  refine zv_aload_n dL_law_971 rfl ?_
  refine zL_M L2 zm_L_127 zkyX8_value rfl (fun hn => cM_value hn (okk_of hi).2.2.2) rfl rfl (Nat.le_of_ble_eq_true rfl) (by decide) dL_law_972 (fun R2 hR2 L3 => ?_)
  refine zv_lcmp dL_law_975 ?_
  exact zv_if_eq (tgt := 1027) dL_law_976 (by decide) (fun _ => K _ _ _ _ hR2 L3) (fun c => absurd (cmp_eq.mpr rfl) c)
set_option maxRecDepth 20000 in
theorem law_told (hb : zg_s G < zg_B G) (v1 : vp_in (i + 1) (zg_L G)) (v2 : vp_in (i + 2) (zg_L G)) (v3 : vp_in (i + 3) (zg_L G)) (v4 : vp_in (i + 4) (zg_L G)) (v5 : vp_in (i + 5) (zg_L G)) (he : f = ms G f σ) (h : cP G f nn σ R P ra pa) (hi : iv σ R P N D) (hR : R + 1 ≤ 4000) (K : ∀ (f1 : Nat → va_E) (n1 : Nat) (σ1 : sg) (R1 : Nat), R1 ≤ R + 1 → LI G f1 n1 σ1 R1 → zv G l ⟨RL, nm, ds⟩ cL_law 4 (some .boolean) 7 mc ms0 1027 [(3, .int i), (2, .ref (zg_B G + 18)), (1, .ref (zg_B G)), (0, .ref (zg_s G))] [] (f1, n1) Q) : zv G l ⟨RL, nm, ds⟩ cL_law 4 (some .boolean) 7 (2 + mc) (19 + ms0) 981 [(3, .int i), (2, .ref (zg_B G + 18)), (1, .ref (zg_B G)), (0, .ref (zg_s G))] [] (f, nn) Q := by
  refine zv_more (0 + mc) (0 + ms0) (by omega) (by omega) ?_
  refine zv_aload_n dL_law_981 rfl ?_
  refine zv_aload_n dL_law_982 rfl ?_
  refine zv_iload_n dL_law_983 rfl ?_
  refine zv_iconstv (v := 1) dL_law_984 (by decide) ?_
  refine zv_iadd dL_law_985 ?_
  refine zv_sald hb v1 dL_law_986 ?_
  refine zL_X he h zm_L_128 zkyX7_told rfl (cZ_of hi (xX_told h hi)) rfl rfl (Nat.le_of_ble_eq_true rfl) (by decide) dL_law_987 (fun f1 n1 L2 => ?_)
  refine zv_aload_n dL_law_990 rfl ?_
  refine zv_aload_n dL_law_991 rfl ?_
  refine zv_iload_n dL_law_992 rfl ?_
  refine zv_iconstv (v := 1) dL_law_993 (by decide) ?_
  refine zv_iadd dL_law_994 ?_
  refine zv_sald hb v1 dL_law_995 ?_
  refine zL_M L2 zm_L_131 zkyX8_told rfl (fun hn => cM_told hn (m_told3 hi) (m_told2 hi)) rfl rfl (Nat.le_of_ble_eq_true rfl) (by decide) dL_law_996 (fun R2 hR2 L3 => ?_)
  exact zv_icmp_eq (tgt := 1027) dL_law_999 (by decide) (fun _ => K _ _ _ _ hR2 L3) (fun c => absurd rfl c)
set_option maxRecDepth 20000 in
theorem law_same (hb : zg_s G < zg_B G) (v1 : vp_in (i + 1) (zg_L G)) (v2 : vp_in (i + 2) (zg_L G)) (v3 : vp_in (i + 3) (zg_L G)) (v4 : vp_in (i + 4) (zg_L G)) (v5 : vp_in (i + 5) (zg_L G)) (he : f = ms G f σ) (h : cP G f nn σ R P ra pa) (hi : iv σ R P N D) (hR : R + 1 ≤ 4000) (K : ∀ (f1 : Nat → va_E) (n1 : Nat) (σ1 : sg) (R1 : Nat), R1 ≤ R + 1 → LI G f1 n1 σ1 R1 → zv G l ⟨RL, nm, ds⟩ cL_law 4 (some .boolean) 7 mc ms0 1027 [(3, .int i), (2, .ref (zg_B G + 18)), (1, .ref (zg_B G)), (0, .ref (zg_s G))] [] (f1, n1) Q) : zv G l ⟨RL, nm, ds⟩ cL_law 4 (some .boolean) 7 (2 + mc) (19 + ms0) 1004 [(3, .int i), (2, .ref (zg_B G + 18)), (1, .ref (zg_B G)), (0, .ref (zg_s G))] [] (f, nn) Q := by
  refine zv_more (0 + mc) (0 + ms0) (by omega) (by omega) ?_
  refine zv_aload_n dL_law_1004 rfl ?_
  refine zv_aload_n dL_law_1005 rfl ?_
  refine zv_iload_n dL_law_1006 rfl ?_
  refine zv_iconstv (v := 1) dL_law_1007 (by decide) ?_
  refine zv_iadd dL_law_1008 ?_
  refine zv_sald hb v1 dL_law_1009 ?_
  refine zL_X he h zm_L_132 zkyX7_same rfl (cZ_of hi (xX_same h hi)) rfl rfl (Nat.le_of_ble_eq_true rfl) (by decide) dL_law_1010 (fun f1 n1 L2 => ?_)
  refine zv_aload_n dL_law_1013 rfl ?_
  refine zv_aload_n dL_law_1014 rfl ?_
  refine zv_iload_n dL_law_1015 rfl ?_
  refine zv_iconstv (v := 1) dL_law_1016 (by decide) ?_
  refine zv_iadd dL_law_1017 ?_
  refine zv_sald hb v1 dL_law_1018 ?_
  refine zL_M L2 zm_L_135 zkyX8_same rfl (fun hn => cM_same hn) rfl rfl (Nat.le_of_ble_eq_true rfl) (by decide) dL_law_1019 (fun R2 hR2 L3 => ?_)
  exact zv_icmp_eq (tgt := 1027) dL_law_1022 (by decide) (fun _ => K _ _ _ _ hR2 L3) (fun c => absurd rfl c)
end LAWC
