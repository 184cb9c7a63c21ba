/-! THE LAW: a case a call -/
set_option maxRecDepth 100000 in
set_option maxHeartbeats 4000000 in
theorem law_0 {κ : KX} {Q : Option Value → va_W → Prop} {b N i : Nat} {xs : Nat → Int32} {M : MM} (hb : b < kb κ) (h4 : N ≤ 448) (hi : i + 7 ≤ N) (hM : REL M) (hN : ∀ M, REL M → WL (ZS b N xs) κ (12, 600000, 7302250) mL_law 1177 [some (.ref b), some (.ref (ka κ 0)), some (.ref (ka κ 120)), some (.int (nI i))] [] (wM κ M) (129, 1847) Q) : WL (ZS b N xs) κ (12, 600000, 7302250) mL_law 172 [some (.ref b), some (.ref (ka κ 0)), some (.ref (ka κ 120)), some (.int (nI i))] [] (wM κ M) (129, 1847) Q := by
  obtain ⟨M1, M2, v, hR, hA, hB⟩ := pr_garden (κ := κ) (a := xs (i + 1)) (b := xs (i + 2)) hM
  refine wl_aload_1 dL_law_172 ?_
  refine wl_aload_0 dL_law_173 ?_
  refine wl_iload_3 dL_law_174 ?_
  refine wl_iconst (v := 1) dL_law_175 rfl ?_
  refine wl_iadd dL_law_176 ?_
  refine wl_sld (j := i + 1) hb dL_law_177 (nI_add i 1) (by omega) (by omega) ?_
  refine wl_aload_0 dL_law_178 ?_
  refine wl_iload_3 dL_law_179 ?_
  refine wl_iconst (v := 2) dL_law_180 rfl ?_
  refine wl_iadd dL_law_181 ?_
  refine wl_sld (j := i + 2) hb dL_law_182 (nI_add i 2) (by omega) (by omega) ?_
  refine wl_callV (As := [.int (xs (i + 1)), .int (xs (i + 2))]) kL_13 dL_law_183 kd_0 rfl ⟨Nat.le_of_ble_eq_true rfl, Nat.le_of_ble_eq_true rfl, Nat.le_of_ble_eq_true rfl⟩ rfl rfl (Nat.le_of_ble_eq_true rfl) (hA _ ?_)
  show WL (ZS b N xs) κ (12, 600000, 7302250) mL_law 186 [some (.ref b), some (.ref (ka κ 0)), some (.ref (ka κ 120)), some (.int (nI i))] [.int v] (wM κ M1) (129, 1847) Q
  refine wl_aload_2 dL_law_186 ?_
  refine wl_aload_0 dL_law_187 ?_
  refine wl_iload_3 dL_law_188 ?_
  refine wl_iconst (v := 1) dL_law_189 rfl ?_
  refine wl_iadd dL_law_190 ?_
  refine wl_sld (j := i + 1) hb dL_law_191 (nI_add i 1) (by omega) (by omega) ?_
  refine wl_aload_0 dL_law_192 ?_
  refine wl_iload_3 dL_law_193 ?_
  refine wl_iconst (v := 2) dL_law_194 rfl ?_
  refine wl_iadd dL_law_195 ?_
  refine wl_sld (j := i + 2) hb dL_law_196 (nI_add i 2) (by omega) (by omega) ?_
  refine wl_callV (As := [.int (xs (i + 1)), .int (xs (i + 2))]) kL_17 dL_law_197 kd_120 rfl ⟨Nat.le_of_ble_eq_true rfl, Nat.le_of_ble_eq_true rfl, Nat.le_of_ble_eq_true rfl⟩ rfl rfl (Nat.le_of_ble_eq_true rfl) (hB _ ?_)
  show WL (ZS b N xs) κ (12, 600000, 7302250) mL_law 200 [some (.ref b), some (.ref (ka κ 0)), some (.ref (ka κ 120)), some (.int (nI i))] [.int v, .int v] (wM κ M2) (129, 1847) Q
  refine wl_icmp_eq (tgt := 1177) dL_law_200 rfl (fun _ => ?_) (fun q => absurd rfl q)
  exact hN M2 hR
set_option maxRecDepth 100000 in
set_option maxHeartbeats 4000000 in
theorem law_1 {κ : KX} {Q : Option Value → va_W → Prop} {b N i : Nat} {xs : Nat → Int32} {M : MM} (hb : b < kb κ) (h4 : N ≤ 448) (hi : i + 7 ≤ N) (hM : REL M) (hN : ∀ M, REL M → WL (ZS b N xs) κ (12, 600000, 7302250) mL_law 1177 [some (.ref b), some (.ref (ka κ 0)), some (.ref (ka κ 120)), some (.int (nI i))] [] (wM κ M) (129, 1847) Q) : WL (ZS b N xs) κ (12, 600000, 7302250) mL_law 205 [some (.ref b), some (.ref (ka κ 0)), some (.ref (ka κ 120)), some (.int (nI i))] [] (wM κ M) (129, 1847) Q := by
  obtain ⟨M1, M2, v, hR, hA, hB⟩ := pr_of (κ := κ) (a := xs (i + 1)) (b := xs (i + 2)) hM
  refine wl_aload_1 dL_law_205 ?_
  refine wl_aload_0 dL_law_206 ?_
  refine wl_iload_3 dL_law_207 ?_
  refine wl_iconst (v := 1) dL_law_208 rfl ?_
  refine wl_iadd dL_law_209 ?_
  refine wl_sld (j := i + 1) hb dL_law_210 (nI_add i 1) (by omega) (by omega) ?_
  refine wl_aload_0 dL_law_211 ?_
  refine wl_iload_3 dL_law_212 ?_
  refine wl_iconst (v := 2) dL_law_213 rfl ?_
  refine wl_iadd dL_law_214 ?_
  refine wl_sld (j := i + 2) hb dL_law_215 (nI_add i 2) (by omega) (by omega) ?_
  refine wl_callV (As := [.int (xs (i + 1)), .int (xs (i + 2))]) kL_18 dL_law_216 kd_0 rfl ⟨Nat.le_of_ble_eq_true rfl, Nat.le_of_ble_eq_true rfl, Nat.le_of_ble_eq_true rfl⟩ rfl rfl (Nat.le_of_ble_eq_true rfl) (hA _ ?_)
  show WL (ZS b N xs) κ (12, 600000, 7302250) mL_law 219 [some (.ref b), some (.ref (ka κ 0)), some (.ref (ka κ 120)), some (.int (nI i))] [.int v] (wM κ M1) (129, 1847) Q
  refine wl_aload_2 dL_law_219 ?_
  refine wl_aload_0 dL_law_220 ?_
  refine wl_iload_3 dL_law_221 ?_
  refine wl_iconst (v := 1) dL_law_222 rfl ?_
  refine wl_iadd dL_law_223 ?_
  refine wl_sld (j := i + 1) hb dL_law_224 (nI_add i 1) (by omega) (by omega) ?_
  refine wl_aload_0 dL_law_225 ?_
  refine wl_iload_3 dL_law_226 ?_
  refine wl_iconst (v := 2) dL_law_227 rfl ?_
  refine wl_iadd dL_law_228 ?_
  refine wl_sld (j := i + 2) hb dL_law_229 (nI_add i 2) (by omega) (by omega) ?_
  refine wl_callV (As := [.int (xs (i + 1)), .int (xs (i + 2))]) kL_21 dL_law_230 kd_120 rfl ⟨Nat.le_of_ble_eq_true rfl, Nat.le_of_ble_eq_true rfl, Nat.le_of_ble_eq_true rfl⟩ rfl rfl (Nat.le_of_ble_eq_true rfl) (hB _ ?_)
  show WL (ZS b N xs) κ (12, 600000, 7302250) mL_law 233 [some (.ref b), some (.ref (ka κ 0)), some (.ref (ka κ 120)), some (.int (nI i))] [.int v, .int v] (wM κ M2) (129, 1847) Q
  refine wl_icmp_eq (tgt := 1177) dL_law_233 rfl (fun _ => ?_) (fun q => absurd rfl q)
  exact hN M2 hR
set_option maxRecDepth 100000 in
set_option maxHeartbeats 4000000 in
theorem law_2 {κ : KX} {Q : Option Value → va_W → Prop} {b N i : Nat} {xs : Nat → Int32} {M : MM} (hb : b < kb κ) (h4 : N ≤ 448) (hi : i + 7 ≤ N) (hM : REL M) (hN : ∀ M, REL M → WL (ZS b N xs) κ (12, 600000, 7302250) mL_law 1177 [some (.ref b), some (.ref (ka κ 0)), some (.ref (ka κ 120)), some (.int (nI i))] [] (wM κ M) (129, 1847) Q) : WL (ZS b N xs) κ (12, 600000, 7302250) mL_law 238 [some (.ref b), some (.ref (ka κ 0)), some (.ref (ka κ 120)), some (.int (nI i))] [] (wM κ M) (129, 1847) Q := by
  obtain ⟨M1, M2, v, hR, hA, hB⟩ := pr_wall (κ := κ) (a := xs (i + 1)) (b := xs (i + 2)) hM
  refine wl_aload_1 dL_law_238 ?_
  refine wl_aload_0 dL_law_239 ?_
  refine wl_iload_3 dL_law_240 ?_
  refine wl_iconst (v := 1) dL_law_241 rfl ?_
  refine wl_iadd dL_law_242 ?_
  refine wl_sld (j := i + 1) hb dL_law_243 (nI_add i 1) (by omega) (by omega) ?_
  refine wl_aload_0 dL_law_244 ?_
  refine wl_iload_3 dL_law_245 ?_
  refine wl_iconst (v := 2) dL_law_246 rfl ?_
  refine wl_iadd dL_law_247 ?_
  refine wl_sld (j := i + 2) hb dL_law_248 (nI_add i 2) (by omega) (by omega) ?_
  refine wl_callV (As := [.int (xs (i + 1)), .int (xs (i + 2))]) kL_22 dL_law_249 kd_0 rfl ⟨Nat.le_of_ble_eq_true rfl, Nat.le_of_ble_eq_true rfl, Nat.le_of_ble_eq_true rfl⟩ rfl rfl (Nat.le_of_ble_eq_true rfl) (hA _ ?_)
  show WL (ZS b N xs) κ (12, 600000, 7302250) mL_law 252 [some (.ref b), some (.ref (ka κ 0)), some (.ref (ka κ 120)), some (.int (nI i))] [.int v] (wM κ M1) (129, 1847) Q
  refine wl_aload_2 dL_law_252 ?_
  refine wl_aload_0 dL_law_253 ?_
  refine wl_iload_3 dL_law_254 ?_
  refine wl_iconst (v := 1) dL_law_255 rfl ?_
  refine wl_iadd dL_law_256 ?_
  refine wl_sld (j := i + 1) hb dL_law_257 (nI_add i 1) (by omega) (by omega) ?_
  refine wl_aload_0 dL_law_258 ?_
  refine wl_iload_3 dL_law_259 ?_
  refine wl_iconst (v := 2) dL_law_260 rfl ?_
  refine wl_iadd dL_law_261 ?_
  refine wl_sld (j := i + 2) hb dL_law_262 (nI_add i 2) (by omega) (by omega) ?_
  refine wl_callV (As := [.int (xs (i + 1)), .int (xs (i + 2))]) kL_25 dL_law_263 kd_120 rfl ⟨Nat.le_of_ble_eq_true rfl, Nat.le_of_ble_eq_true rfl, Nat.le_of_ble_eq_true rfl⟩ rfl rfl (Nat.le_of_ble_eq_true rfl) (hB _ ?_)
  show WL (ZS b N xs) κ (12, 600000, 7302250) mL_law 266 [some (.ref b), some (.ref (ka κ 0)), some (.ref (ka κ 120)), some (.int (nI i))] [.int v, .int v] (wM κ M2) (129, 1847) Q
  refine wl_icmp_eq (tgt := 1177) dL_law_266 rfl (fun _ => ?_) (fun q => absurd rfl q)
  exact hN M2 hR
set_option maxRecDepth 100000 in
set_option maxHeartbeats 4000000 in
theorem law_3 {κ : KX} {Q : Option Value → va_W → Prop} {b N i : Nat} {xs : Nat → Int32} {M : MM} (hb : b < kb κ) (h4 : N ≤ 448) (hi : i + 7 ≤ N) (hM : REL M) (hN : ∀ M, REL M → WL (ZS b N xs) κ (12, 600000, 7302250) mL_law 1177 [some (.ref b), some (.ref (ka κ 0)), some (.ref (ka κ 120)), some (.int (nI i))] [] (wM κ M) (129, 1847) Q) : WL (ZS b N xs) κ (12, 600000, 7302250) mL_law 271 [some (.ref b), some (.ref (ka κ 0)), some (.ref (ka κ 120)), some (.int (nI i))] [] (wM κ M) (129, 1847) Q := by
  obtain ⟨M1, M2, v, hR, hA, hB⟩ := pr_noise (κ := κ) (a := xs (i + 1)) (b := xs (i + 2)) hM
  refine wl_aload_1 dL_law_271 ?_
  refine wl_aload_0 dL_law_272 ?_
  refine wl_iload_3 dL_law_273 ?_
  refine wl_iconst (v := 1) dL_law_274 rfl ?_
  refine wl_iadd dL_law_275 ?_
  refine wl_sld (j := i + 1) hb dL_law_276 (nI_add i 1) (by omega) (by omega) ?_
  refine wl_aload_0 dL_law_277 ?_
  refine wl_iload_3 dL_law_278 ?_
  refine wl_iconst (v := 2) dL_law_279 rfl ?_
  refine wl_iadd dL_law_280 ?_
  refine wl_sld (j := i + 2) hb dL_law_281 (nI_add i 2) (by omega) (by omega) ?_
  refine wl_callV (As := [.int (xs (i + 1)), .int (xs (i + 2))]) kL_26 dL_law_282 kd_0 rfl ⟨Nat.le_of_ble_eq_true rfl, Nat.le_of_ble_eq_true rfl, Nat.le_of_ble_eq_true rfl⟩ rfl rfl (Nat.le_of_ble_eq_true rfl) (hA _ ?_)
  show WL (ZS b N xs) κ (12, 600000, 7302250) mL_law 285 [some (.ref b), some (.ref (ka κ 0)), some (.ref (ka κ 120)), some (.int (nI i))] [.int v] (wM κ M1) (129, 1847) Q
  refine wl_aload_2 dL_law_285 ?_
  refine wl_aload_0 dL_law_286 ?_
  refine wl_iload_3 dL_law_287 ?_
  refine wl_iconst (v := 1) dL_law_288 rfl ?_
  refine wl_iadd dL_law_289 ?_
  refine wl_sld (j := i + 1) hb dL_law_290 (nI_add i 1) (by omega) (by omega) ?_
  refine wl_aload_0 dL_law_291 ?_
  refine wl_iload_3 dL_law_292 ?_
  refine wl_iconst (v := 2) dL_law_293 rfl ?_
  refine wl_iadd dL_law_294 ?_
  refine wl_sld (j := i + 2) hb dL_law_295 (nI_add i 2) (by omega) (by omega) ?_
  refine wl_callV (As := [.int (xs (i + 1)), .int (xs (i + 2))]) kL_29 dL_law_296 kd_120 rfl ⟨Nat.le_of_ble_eq_true rfl, Nat.le_of_ble_eq_true rfl, Nat.le_of_ble_eq_true rfl⟩ rfl rfl (Nat.le_of_ble_eq_true rfl) (hB _ ?_)
  show WL (ZS b N xs) κ (12, 600000, 7302250) mL_law 299 [some (.ref b), some (.ref (ka κ 0)), some (.ref (ka κ 120)), some (.int (nI i))] [.int v, .int v] (wM κ M2) (129, 1847) Q
  refine wl_icmp_eq (tgt := 1177) dL_law_299 rfl (fun _ => ?_) (fun q => absurd rfl q)
  exact hN M2 hR
set_option maxRecDepth 100000 in
set_option maxHeartbeats 4000000 in
theorem law_4 {κ : KX} {Q : Option Value → va_W → Prop} {b N i : Nat} {xs : Nat → Int32} {M : MM} (hb : b < kb κ) (h4 : N ≤ 448) (hi : i + 7 ≤ N) (hM : REL M) (hN : ∀ M, REL M → WL (ZS b N xs) κ (12, 600000, 7302250) mL_law 1177 [some (.ref b), some (.ref (ka κ 0)), some (.ref (ka κ 120)), some (.int (nI i))] [] (wM κ M) (129, 1847) Q) : WL (ZS b N xs) κ (12, 600000, 7302250) mL_law 304 [some (.ref b), some (.ref (ka κ 0)), some (.ref (ka κ 120)), some (.int (nI i))] [] (wM κ M) (129, 1847) Q := by
  obtain ⟨M1, M2, v, hR, hA, hB⟩ := pr_rule (κ := κ) (a := xs (i + 1)) (b := xs (i + 2)) hM
  refine wl_aload_1 dL_law_304 ?_
  refine wl_aload_0 dL_law_305 ?_
  refine wl_iload_3 dL_law_306 ?_
  refine wl_iconst (v := 1) dL_law_307 rfl ?_
  refine wl_iadd dL_law_308 ?_
  refine wl_sld (j := i + 1) hb dL_law_309 (nI_add i 1) (by omega) (by omega) ?_
  refine wl_aload_0 dL_law_310 ?_
  refine wl_iload_3 dL_law_311 ?_
  refine wl_iconst (v := 2) dL_law_312 rfl ?_
  refine wl_iadd dL_law_313 ?_
  refine wl_sld (j := i + 2) hb dL_law_314 (nI_add i 2) (by omega) (by omega) ?_
  refine wl_callV (As := [.int (xs (i + 1)), .int (xs (i + 2))]) kL_30 dL_law_315 kd_0 rfl ⟨Nat.le_of_ble_eq_true rfl, Nat.le_of_ble_eq_true rfl, Nat.le_of_ble_eq_true rfl⟩ rfl rfl (Nat.le_of_ble_eq_true rfl) (hA _ ?_)
  show WL (ZS b N xs) κ (12, 600000, 7302250) mL_law 318 [some (.ref b), some (.ref (ka κ 0)), some (.ref (ka κ 120)), some (.int (nI i))] [.int v] (wM κ M1) (129, 1847) Q
  refine wl_aload_2 dL_law_318 ?_
  refine wl_aload_0 dL_law_319 ?_
  refine wl_iload_3 dL_law_320 ?_
  refine wl_iconst (v := 1) dL_law_321 rfl ?_
  refine wl_iadd dL_law_322 ?_
  refine wl_sld (j := i + 1) hb dL_law_323 (nI_add i 1) (by omega) (by omega) ?_
  refine wl_aload_0 dL_law_324 ?_
  refine wl_iload_3 dL_law_325 ?_
  refine wl_iconst (v := 2) dL_law_326 rfl ?_
  refine wl_iadd dL_law_327 ?_
  refine wl_sld (j := i + 2) hb dL_law_328 (nI_add i 2) (by omega) (by omega) ?_
  refine wl_callV (As := [.int (xs (i + 1)), .int (xs (i + 2))]) kL_33 dL_law_329 kd_120 rfl ⟨Nat.le_of_ble_eq_true rfl, Nat.le_of_ble_eq_true rfl, Nat.le_of_ble_eq_true rfl⟩ rfl rfl (Nat.le_of_ble_eq_true rfl) (hB _ ?_)
  show WL (ZS b N xs) κ (12, 600000, 7302250) mL_law 332 [some (.ref b), some (.ref (ka κ 0)), some (.ref (ka κ 120)), some (.int (nI i))] [.int v, .int v] (wM κ M2) (129, 1847) Q
  refine wl_icmp_eq (tgt := 1177) dL_law_332 rfl (fun _ => ?_) (fun q => absurd rfl q)
  exact hN M2 hR
set_option maxRecDepth 100000 in
set_option maxHeartbeats 4000000 in
theorem law_5 {κ : KX} {Q : Option Value → va_W → Prop} {b N i : Nat} {xs : Nat → Int32} {M : MM} (hb : b < kb κ) (h4 : N ≤ 448) (hi : i + 7 ≤ N) (hM : REL M) (hN : ∀ M, REL M → WL (ZS b N xs) κ (12, 600000, 7302250) mL_law 1177 [some (.ref b), some (.ref (ka κ 0)), some (.ref (ka κ 120)), some (.int (nI i))] [] (wM κ M) (129, 1847) Q) : WL (ZS b N xs) κ (12, 600000, 7302250) mL_law 337 [some (.ref b), some (.ref (ka κ 0)), some (.ref (ka κ 120)), some (.int (nI i))] [] (wM κ M) (129, 1847) Q := by
  obtain ⟨M1, M2, v, hR, hA, hB⟩ := pr_type (κ := κ) (a := xs (i + 1)) hM
  refine wl_aload_1 dL_law_337 ?_
  refine wl_aload_0 dL_law_338 ?_
  refine wl_iload_3 dL_law_339 ?_
  refine wl_iconst (v := 1) dL_law_340 rfl ?_
  refine wl_iadd dL_law_341 ?_
  refine wl_sld (j := i + 1) hb dL_law_342 (nI_add i 1) (by omega) (by omega) ?_
  refine wl_callV (As := [.int (xs (i + 1))]) kL_34 dL_law_343 kd_0 rfl ⟨Nat.le_of_ble_eq_true rfl, Nat.le_of_ble_eq_true rfl, Nat.le_of_ble_eq_true rfl⟩ rfl rfl (Nat.le_of_ble_eq_true rfl) (hA _ ?_)
  show WL (ZS b N xs) κ (12, 600000, 7302250) mL_law 346 [some (.ref b), some (.ref (ka κ 0)), some (.ref (ka κ 120)), some (.int (nI i))] [.int v] (wM κ M1) (129, 1847) Q
  refine wl_aload_2 dL_law_346 ?_
  refine wl_aload_0 dL_law_347 ?_
  refine wl_iload_3 dL_law_348 ?_
  refine wl_iconst (v := 1) dL_law_349 rfl ?_
  refine wl_iadd dL_law_350 ?_
  refine wl_sld (j := i + 1) hb dL_law_351 (nI_add i 1) (by omega) (by omega) ?_
  refine wl_callV (As := [.int (xs (i + 1))]) kL_38 dL_law_352 kd_120 rfl ⟨Nat.le_of_ble_eq_true rfl, Nat.le_of_ble_eq_true rfl, Nat.le_of_ble_eq_true rfl⟩ rfl rfl (Nat.le_of_ble_eq_true rfl) (hB _ ?_)
  show WL (ZS b N xs) κ (12, 600000, 7302250) mL_law 355 [some (.ref b), some (.ref (ka κ 0)), some (.ref (ka κ 120)), some (.int (nI i))] [.int v, .int v] (wM κ M2) (129, 1847) Q
  refine wl_icmp_eq (tgt := 1177) dL_law_355 rfl (fun _ => ?_) (fun q => absurd rfl q)
  exact hN M2 hR
set_option maxRecDepth 100000 in
set_option maxHeartbeats 4000000 in
theorem law_6 {κ : KX} {Q : Option Value → va_W → Prop} {b N i : Nat} {xs : Nat → Int32} {M : MM} (hb : b < kb κ) (h4 : N ≤ 448) (hi : i + 7 ≤ N) (hM : REL M) (hN : ∀ M, REL M → WL (ZS b N xs) κ (12, 600000, 7302250) mL_law 1177 [some (.ref b), some (.ref (ka κ 0)), some (.ref (ka κ 120)), some (.int (nI i))] [] (wM κ M) (129, 1847) Q) : WL (ZS b N xs) κ (12, 600000, 7302250) mL_law 360 [some (.ref b), some (.ref (ka κ 0)), some (.ref (ka κ 120)), some (.int (nI i))] [] (wM κ M) (129, 1847) Q := by
  obtain ⟨M1, M2, v, hR, hA, hB⟩ := pr_street (κ := κ)  hM
  refine wl_aload_1 dL_law_360 ?_
  refine wl_callV (As := []) kL_39 dL_law_361 kd_0 rfl ⟨Nat.le_of_ble_eq_true rfl, Nat.le_of_ble_eq_true rfl, Nat.le_of_ble_eq_true rfl⟩ rfl rfl (Nat.le_of_ble_eq_true rfl) (hA _ ?_)
  show WL (ZS b N xs) κ (12, 600000, 7302250) mL_law 364 [some (.ref b), some (.ref (ka κ 0)), some (.ref (ka κ 120)), some (.int (nI i))] [.int v] (wM κ M1) (129, 1847) Q
  refine wl_aload_2 dL_law_364 ?_
  refine wl_callV (As := []) kL_43 dL_law_365 kd_120 rfl ⟨Nat.le_of_ble_eq_true rfl, Nat.le_of_ble_eq_true rfl, Nat.le_of_ble_eq_true rfl⟩ rfl rfl (Nat.le_of_ble_eq_true rfl) (hB _ ?_)
  show WL (ZS b N xs) κ (12, 600000, 7302250) mL_law 368 [some (.ref b), some (.ref (ka κ 0)), some (.ref (ka κ 120)), some (.int (nI i))] [.int v, .int v] (wM κ M2) (129, 1847) Q
  refine wl_icmp_eq (tgt := 1177) dL_law_368 rfl (fun _ => ?_) (fun q => absurd rfl q)
  exact hN M2 hR
set_option maxRecDepth 100000 in
set_option maxHeartbeats 4000000 in
theorem law_7 {κ : KX} {Q : Option Value → va_W → Prop} {b N i : Nat} {xs : Nat → Int32} {M : MM} (hb : b < kb κ) (h4 : N ≤ 448) (hi : i + 7 ≤ N) (hM : REL M) (hN : ∀ M, REL M → WL (ZS b N xs) κ (12, 600000, 7302250) mL_law 1177 [some (.ref b), some (.ref (ka κ 0)), some (.ref (ka κ 120)), some (.int (nI i))] [] (wM κ M) (129, 1847) Q) : WL (ZS b N xs) κ (12, 600000, 7302250) mL_law 373 [some (.ref b), some (.ref (ka κ 0)), some (.ref (ka κ 120)), some (.int (nI i))] [] (wM κ M) (129, 1847) Q := by
  obtain ⟨M1, M2, v, hR, hA, hB⟩ := pr_count (κ := κ) (a := xs (i + 1)) hM
  refine wl_aload_1 dL_law_373 ?_
  refine wl_aload_0 dL_law_374 ?_
  refine wl_iload_3 dL_law_375 ?_
  refine wl_iconst (v := 1) dL_law_376 rfl ?_
  refine wl_iadd dL_law_377 ?_
  refine wl_sld (j := i + 1) hb dL_law_378 (nI_add i 1) (by omega) (by omega) ?_
  refine wl_callV (As := [.int (xs (i + 1))]) kL_44 dL_law_379 kd_0 rfl ⟨Nat.le_of_ble_eq_true rfl, Nat.le_of_ble_eq_true rfl, Nat.le_of_ble_eq_true rfl⟩ rfl rfl (Nat.le_of_ble_eq_true rfl) (hA _ ?_)
  show WL (ZS b N xs) κ (12, 600000, 7302250) mL_law 382 [some (.ref b), some (.ref (ka κ 0)), some (.ref (ka κ 120)), some (.int (nI i))] [.int v] (wM κ M1) (129, 1847) Q
  refine wl_aload_2 dL_law_382 ?_
  refine wl_aload_0 dL_law_383 ?_
  refine wl_iload_3 dL_law_384 ?_
  refine wl_iconst (v := 1) dL_law_385 rfl ?_
  refine wl_iadd dL_law_386 ?_
  refine wl_sld (j := i + 1) hb dL_law_387 (nI_add i 1) (by omega) (by omega) ?_
  refine wl_callV (As := [.int (xs (i + 1))]) kL_47 dL_law_388 kd_120 rfl ⟨Nat.le_of_ble_eq_true rfl, Nat.le_of_ble_eq_true rfl, Nat.le_of_ble_eq_true rfl⟩ rfl rfl (Nat.le_of_ble_eq_true rfl) (hB _ ?_)
  show WL (ZS b N xs) κ (12, 600000, 7302250) mL_law 391 [some (.ref b), some (.ref (ka κ 0)), some (.ref (ka κ 120)), some (.int (nI i))] [.int v, .int v] (wM κ M2) (129, 1847) Q
  refine wl_icmp_eq (tgt := 1177) dL_law_391 rfl (fun _ => ?_) (fun q => absurd rfl q)
  exact hN M2 hR
set_option maxRecDepth 100000 in
set_option maxHeartbeats 4000000 in
theorem law_8 {κ : KX} {Q : Option Value → va_W → Prop} {b N i : Nat} {xs : Nat → Int32} {M : MM} (hb : b < kb κ) (h4 : N ≤ 448) (hi : i + 7 ≤ N) (hM : REL M) (hN : ∀ M, REL M → WL (ZS b N xs) κ (12, 600000, 7302250) mL_law 1177 [some (.ref b), some (.ref (ka κ 0)), some (.ref (ka κ 120)), some (.int (nI i))] [] (wM κ M) (129, 1847) Q) : WL (ZS b N xs) κ (12, 600000, 7302250) mL_law 396 [some (.ref b), some (.ref (ka κ 0)), some (.ref (ka κ 120)), some (.int (nI i))] [] (wM κ M) (129, 1847) Q := by
  obtain ⟨M1, M2, v, hR, hA, hB⟩ := pr_weeks (κ := κ) (a := xs (i + 1)) hM
  refine wl_aload_1 dL_law_396 ?_
  refine wl_aload_0 dL_law_397 ?_
  refine wl_iload_3 dL_law_398 ?_
  refine wl_iconst (v := 1) dL_law_399 rfl ?_
  refine wl_iadd dL_law_400 ?_
  refine wl_sld (j := i + 1) hb dL_law_401 (nI_add i 1) (by omega) (by omega) ?_
  refine wl_callV (As := [.int (xs (i + 1))]) kL_48 dL_law_402 kd_0 rfl ⟨Nat.le_of_ble_eq_true rfl, Nat.le_of_ble_eq_true rfl, Nat.le_of_ble_eq_true rfl⟩ rfl rfl (Nat.le_of_ble_eq_true rfl) (hA _ ?_)
  show WL (ZS b N xs) κ (12, 600000, 7302250) mL_law 405 [some (.ref b), some (.ref (ka κ 0)), some (.ref (ka κ 120)), some (.int (nI i))] [.int v] (wM κ M1) (129, 1847) Q
  refine wl_aload_2 dL_law_405 ?_
  refine wl_aload_0 dL_law_406 ?_
  refine wl_iload_3 dL_law_407 ?_
  refine wl_iconst (v := 1) dL_law_408 rfl ?_
  refine wl_iadd dL_law_409 ?_
  refine wl_sld (j := i + 1) hb dL_law_410 (nI_add i 1) (by omega) (by omega) ?_
  refine wl_callV (As := [.int (xs (i + 1))]) kL_51 dL_law_411 kd_120 rfl ⟨Nat.le_of_ble_eq_true rfl, Nat.le_of_ble_eq_true rfl, Nat.le_of_ble_eq_true rfl⟩ rfl rfl (Nat.le_of_ble_eq_true rfl) (hB _ ?_)
  show WL (ZS b N xs) κ (12, 600000, 7302250) mL_law 414 [some (.ref b), some (.ref (ka κ 0)), some (.ref (ka κ 120)), some (.int (nI i))] [.int v, .int v] (wM κ M2) (129, 1847) Q
  refine wl_icmp_eq (tgt := 1177) dL_law_414 rfl (fun _ => ?_) (fun q => absurd rfl q)
  exact hN M2 hR
set_option maxRecDepth 100000 in
set_option maxHeartbeats 4000000 in
theorem law_9 {κ : KX} {Q : Option Value → va_W → Prop} {b N i : Nat} {xs : Nat → Int32} {M : MM} (hb : b < kb κ) (h4 : N ≤ 448) (hi : i + 7 ≤ N) (hM : REL M) (hN : ∀ M, REL M → WL (ZS b N xs) κ (12, 600000, 7302250) mL_law 1177 [some (.ref b), some (.ref (ka κ 0)), some (.ref (ka κ 120)), some (.int (nI i))] [] (wM κ M) (129, 1847) Q) : WL (ZS b N xs) κ (12, 600000, 7302250) mL_law 419 [some (.ref b), some (.ref (ka κ 0)), some (.ref (ka κ 120)), some (.int (nI i))] [] (wM κ M) (129, 1847) Q := by
  obtain ⟨M1, M2, v, hR, hA, hB⟩ := pr_sorry (κ := κ) (a := xs (i + 1)) hM
  refine wl_aload_1 dL_law_419 ?_
  refine wl_aload_0 dL_law_420 ?_
  refine wl_iload_3 dL_law_421 ?_
  refine wl_iconst (v := 1) dL_law_422 rfl ?_
  refine wl_iadd dL_law_423 ?_
  refine wl_sld (j := i + 1) hb dL_law_424 (nI_add i 1) (by omega) (by omega) ?_
  refine wl_callV (As := [.int (xs (i + 1))]) kL_52 dL_law_425 kd_0 rfl ⟨Nat.le_of_ble_eq_true rfl, Nat.le_of_ble_eq_true rfl, Nat.le_of_ble_eq_true rfl⟩ rfl rfl (Nat.le_of_ble_eq_true rfl) (hA _ ?_)
  show WL (ZS b N xs) κ (12, 600000, 7302250) mL_law 428 [some (.ref b), some (.ref (ka κ 0)), some (.ref (ka κ 120)), some (.int (nI i))] [.int v] (wM κ M1) (129, 1847) Q
  refine wl_aload_2 dL_law_428 ?_
  refine wl_aload_0 dL_law_429 ?_
  refine wl_iload_3 dL_law_430 ?_
  refine wl_iconst (v := 1) dL_law_431 rfl ?_
  refine wl_iadd dL_law_432 ?_
  refine wl_sld (j := i + 1) hb dL_law_433 (nI_add i 1) (by omega) (by omega) ?_
  refine wl_callV (As := [.int (xs (i + 1))]) kL_55 dL_law_434 kd_120 rfl ⟨Nat.le_of_ble_eq_true rfl, Nat.le_of_ble_eq_true rfl, Nat.le_of_ble_eq_true rfl⟩ rfl rfl (Nat.le_of_ble_eq_true rfl) (hB _ ?_)
  show WL (ZS b N xs) κ (12, 600000, 7302250) mL_law 437 [some (.ref b), some (.ref (ka κ 0)), some (.ref (ka κ 120)), some (.int (nI i))] [.int v, .int v] (wM κ M2) (129, 1847) Q
  refine wl_icmp_eq (tgt := 1177) dL_law_437 rfl (fun _ => ?_) (fun q => absurd rfl q)
  exact hN M2 hR
set_option maxRecDepth 100000 in
set_option maxHeartbeats 4000000 in
theorem law_10 {κ : KX} {Q : Option Value → va_W → Prop} {b N i : Nat} {xs : Nat → Int32} {M : MM} (hb : b < kb κ) (h4 : N ≤ 448) (hi : i + 7 ≤ N) (hM : REL M) (hN : ∀ M, REL M → WL (ZS b N xs) κ (12, 600000, 7302250) mL_law 1177 [some (.ref b), some (.ref (ka κ 0)), some (.ref (ka κ 120)), some (.int (nI i))] [] (wM κ M) (129, 1847) Q) : WL (ZS b N xs) κ (12, 600000, 7302250) mL_law 442 [some (.ref b), some (.ref (ka κ 0)), some (.ref (ka κ 120)), some (.int (nI i))] [] (wM κ M) (129, 1847) Q := by
  obtain ⟨M1, M2, v, hR, hA, hB⟩ := pr_gift (κ := κ) (a := xs (i + 1)) (b := xs (i + 2)) (c := xs (i + 3)) hM
  refine wl_aload_1 dL_law_442 ?_
  refine wl_aload_0 dL_law_443 ?_
  refine wl_iload_3 dL_law_444 ?_
  refine wl_iconst (v := 1) dL_law_445 rfl ?_
  refine wl_iadd dL_law_446 ?_
  refine wl_sld (j := i + 1) hb dL_law_447 (nI_add i 1) (by omega) (by omega) ?_
  refine wl_aload_0 dL_law_448 ?_
  refine wl_iload_3 dL_law_449 ?_
  refine wl_iconst (v := 2) dL_law_450 rfl ?_
  refine wl_iadd dL_law_451 ?_
  refine wl_sld (j := i + 2) hb dL_law_452 (nI_add i 2) (by omega) (by omega) ?_
  refine wl_aload_0 dL_law_453 ?_
  refine wl_iload_3 dL_law_454 ?_
  refine wl_iconst (v := 3) dL_law_455 rfl ?_
  refine wl_iadd dL_law_456 ?_
  refine wl_sld (j := i + 3) hb dL_law_457 (nI_add i 3) (by omega) (by omega) ?_
  refine wl_callV (As := [.int (xs (i + 1)), .int (xs (i + 2)), .int (xs (i + 3))]) kL_56 dL_law_458 kd_0 rfl ⟨Nat.le_of_ble_eq_true rfl, Nat.le_of_ble_eq_true rfl, Nat.le_of_ble_eq_true rfl⟩ rfl rfl (Nat.le_of_ble_eq_true rfl) (hA _ ?_)
  show WL (ZS b N xs) κ (12, 600000, 7302250) mL_law 461 [some (.ref b), some (.ref (ka κ 0)), some (.ref (ka κ 120)), some (.int (nI i))] [.int v] (wM κ M1) (129, 1847) Q
  refine wl_aload_2 dL_law_461 ?_
  refine wl_aload_0 dL_law_462 ?_
  refine wl_iload_3 dL_law_463 ?_
  refine wl_iconst (v := 1) dL_law_464 rfl ?_
  refine wl_iadd dL_law_465 ?_
  refine wl_sld (j := i + 1) hb dL_law_466 (nI_add i 1) (by omega) (by omega) ?_
  refine wl_aload_0 dL_law_467 ?_
  refine wl_iload_3 dL_law_468 ?_
  refine wl_iconst (v := 2) dL_law_469 rfl ?_
  refine wl_iadd dL_law_470 ?_
  refine wl_sld (j := i + 2) hb dL_law_471 (nI_add i 2) (by omega) (by omega) ?_
  refine wl_aload_0 dL_law_472 ?_
  refine wl_iload_3 dL_law_473 ?_
  refine wl_iconst (v := 3) dL_law_474 rfl ?_
  refine wl_iadd dL_law_475 ?_
  refine wl_sld (j := i + 3) hb dL_law_476 (nI_add i 3) (by omega) (by omega) ?_
  refine wl_callV (As := [.int (xs (i + 1)), .int (xs (i + 2)), .int (xs (i + 3))]) kL_60 dL_law_477 kd_120 rfl ⟨Nat.le_of_ble_eq_true rfl, Nat.le_of_ble_eq_true rfl, Nat.le_of_ble_eq_true rfl⟩ rfl rfl (Nat.le_of_ble_eq_true rfl) (hB _ ?_)
  show WL (ZS b N xs) κ (12, 600000, 7302250) mL_law 480 [some (.ref b), some (.ref (ka κ 0)), some (.ref (ka κ 120)), some (.int (nI i))] [.int v, .int v] (wM κ M2) (129, 1847) Q
  refine wl_icmp_eq (tgt := 1177) dL_law_480 rfl (fun _ => ?_) (fun q => absurd rfl q)
  exact hN M2 hR
set_option maxRecDepth 100000 in
set_option maxHeartbeats 4000000 in
theorem law_11 {κ : KX} {Q : Option Value → va_W → Prop} {b N i : Nat} {xs : Nat → Int32} {M : MM} (hb : b < kb κ) (h4 : N ≤ 448) (hi : i + 7 ≤ N) (hM : REL M) (hN : ∀ M, REL M → WL (ZS b N xs) κ (12, 600000, 7302250) mL_law 1177 [some (.ref b), some (.ref (ka κ 0)), some (.ref (ka κ 120)), some (.int (nI i))] [] (wM κ M) (129, 1847) Q) : WL (ZS b N xs) κ (12, 600000, 7302250) mL_law 485 [some (.ref b), some (.ref (ka κ 0)), some (.ref (ka κ 120)), some (.int (nI i))] [] (wM κ M) (129, 1847) Q := by
  obtain ⟨M1, M2, v, hR, hA, hB⟩ := pr_gossip (κ := κ) (a := xs (i + 1)) (b := xs (i + 2)) hM
  refine wl_aload_1 dL_law_485 ?_
  refine wl_aload_0 dL_law_486 ?_
  refine wl_iload_3 dL_law_487 ?_
  refine wl_iconst (v := 1) dL_law_488 rfl ?_
  refine wl_iadd dL_law_489 ?_
  refine wl_sld (j := i + 1) hb dL_law_490 (nI_add i 1) (by omega) (by omega) ?_
  refine wl_aload_0 dL_law_491 ?_
  refine wl_iload_3 dL_law_492 ?_
  refine wl_iconst (v := 2) dL_law_493 rfl ?_
  refine wl_iadd dL_law_494 ?_
  refine wl_sld (j := i + 2) hb dL_law_495 (nI_add i 2) (by omega) (by omega) ?_
  refine wl_callV (As := [.int (xs (i + 1)), .int (xs (i + 2))]) kL_61 dL_law_496 kd_0 rfl ⟨Nat.le_of_ble_eq_true rfl, Nat.le_of_ble_eq_true rfl, Nat.le_of_ble_eq_true rfl⟩ rfl rfl (Nat.le_of_ble_eq_true rfl) (hA _ ?_)
  show WL (ZS b N xs) κ (12, 600000, 7302250) mL_law 499 [some (.ref b), some (.ref (ka κ 0)), some (.ref (ka κ 120)), some (.int (nI i))] [.int v] (wM κ M1) (129, 1847) Q
  refine wl_aload_2 dL_law_499 ?_
  refine wl_aload_0 dL_law_500 ?_
  refine wl_iload_3 dL_law_501 ?_
  refine wl_iconst (v := 1) dL_law_502 rfl ?_
  refine wl_iadd dL_law_503 ?_
  refine wl_sld (j := i + 1) hb dL_law_504 (nI_add i 1) (by omega) (by omega) ?_
  refine wl_aload_0 dL_law_505 ?_
  refine wl_iload_3 dL_law_506 ?_
  refine wl_iconst (v := 2) dL_law_507 rfl ?_
  refine wl_iadd dL_law_508 ?_
  refine wl_sld (j := i + 2) hb dL_law_509 (nI_add i 2) (by omega) (by omega) ?_
  refine wl_callV (As := [.int (xs (i + 1)), .int (xs (i + 2))]) kL_64 dL_law_510 kd_120 rfl ⟨Nat.le_of_ble_eq_true rfl, Nat.le_of_ble_eq_true rfl, Nat.le_of_ble_eq_true rfl⟩ rfl rfl (Nat.le_of_ble_eq_true rfl) (hB _ ?_)
  show WL (ZS b N xs) κ (12, 600000, 7302250) mL_law 513 [some (.ref b), some (.ref (ka κ 0)), some (.ref (ka κ 120)), some (.int (nI i))] [.int v, .int v] (wM κ M2) (129, 1847) Q
  refine wl_icmp_eq (tgt := 1177) dL_law_513 rfl (fun _ => ?_) (fun q => absurd rfl q)
  exact hN M2 hR
set_option maxRecDepth 100000 in
set_option maxHeartbeats 4000000 in
theorem law_12 {κ : KX} {Q : Option Value → va_W → Prop} {b N i : Nat} {xs : Nat → Int32} {M : MM} (hb : b < kb κ) (h4 : N ≤ 448) (hi : i + 7 ≤ N) (hM : REL M) (hN : ∀ M, REL M → WL (ZS b N xs) κ (12, 600000, 7302250) mL_law 1177 [some (.ref b), some (.ref (ka κ 0)), some (.ref (ka κ 120)), some (.int (nI i))] [] (wM κ M) (129, 1847) Q) : WL (ZS b N xs) κ (12, 600000, 7302250) mL_law 518 [some (.ref b), some (.ref (ka κ 0)), some (.ref (ka κ 120)), some (.int (nI i))] [] (wM κ M) (129, 1847) Q := by
  obtain ⟨M1, M2, v, hR, hA, hB⟩ := pr_lovers (κ := κ) (a := xs (i + 1)) hM
  refine wl_aload_1 dL_law_518 ?_
  refine wl_aload_0 dL_law_519 ?_
  refine wl_iload_3 dL_law_520 ?_
  refine wl_iconst (v := 1) dL_law_521 rfl ?_
  refine wl_iadd dL_law_522 ?_
  refine wl_sld (j := i + 1) hb dL_law_523 (nI_add i 1) (by omega) (by omega) ?_
  refine wl_callV (As := [.int (xs (i + 1))]) kL_65 dL_law_524 kd_0 rfl ⟨Nat.le_of_ble_eq_true rfl, Nat.le_of_ble_eq_true rfl, Nat.le_of_ble_eq_true rfl⟩ rfl rfl (Nat.le_of_ble_eq_true rfl) (hA _ ?_)
  show WL (ZS b N xs) κ (12, 600000, 7302250) mL_law 527 [some (.ref b), some (.ref (ka κ 0)), some (.ref (ka κ 120)), some (.int (nI i))] [.int v] (wM κ M1) (129, 1847) Q
  refine wl_aload_2 dL_law_527 ?_
  refine wl_aload_0 dL_law_528 ?_
  refine wl_iload_3 dL_law_529 ?_
  refine wl_iconst (v := 1) dL_law_530 rfl ?_
  refine wl_iadd dL_law_531 ?_
  refine wl_sld (j := i + 1) hb dL_law_532 (nI_add i 1) (by omega) (by omega) ?_
  refine wl_callV (As := [.int (xs (i + 1))]) kL_68 dL_law_533 kd_120 rfl ⟨Nat.le_of_ble_eq_true rfl, Nat.le_of_ble_eq_true rfl, Nat.le_of_ble_eq_true rfl⟩ rfl rfl (Nat.le_of_ble_eq_true rfl) (hB _ ?_)
  show WL (ZS b N xs) κ (12, 600000, 7302250) mL_law 536 [some (.ref b), some (.ref (ka κ 0)), some (.ref (ka κ 120)), some (.int (nI i))] [.int v, .int v] (wM κ M2) (129, 1847) Q
  refine wl_icmp_eq (tgt := 1177) dL_law_536 rfl (fun _ => ?_) (fun q => absurd rfl q)
  exact hN M2 hR
set_option maxRecDepth 100000 in
set_option maxHeartbeats 4000000 in
theorem law_13 {κ : KX} {Q : Option Value → va_W → Prop} {b N i : Nat} {xs : Nat → Int32} {M : MM} (hb : b < kb κ) (h4 : N ≤ 448) (hi : i + 7 ≤ N) (hM : REL M) (hN : ∀ M, REL M → WL (ZS b N xs) κ (12, 600000, 7302250) mL_law 1177 [some (.ref b), some (.ref (ka κ 0)), some (.ref (ka κ 120)), some (.int (nI i))] [] (wM κ M) (129, 1847) Q) : WL (ZS b N xs) κ (12, 600000, 7302250) mL_law 541 [some (.ref b), some (.ref (ka κ 0)), some (.ref (ka κ 120)), some (.int (nI i))] [] (wM κ M) (129, 1847) Q := by
  obtain ⟨M1, M2, v, hR, hA, hB⟩ := pr_falls (κ := κ) (a := xs (i + 1)) hM
  refine wl_aload_1 dL_law_541 ?_
  refine wl_aload_0 dL_law_542 ?_
  refine wl_iload_3 dL_law_543 ?_
  refine wl_iconst (v := 1) dL_law_544 rfl ?_
  refine wl_iadd dL_law_545 ?_
  refine wl_sld (j := i + 1) hb dL_law_546 (nI_add i 1) (by omega) (by omega) ?_
  refine wl_callV (As := [.int (xs (i + 1))]) kL_69 dL_law_547 kd_0 rfl ⟨Nat.le_of_ble_eq_true rfl, Nat.le_of_ble_eq_true rfl, Nat.le_of_ble_eq_true rfl⟩ rfl rfl (Nat.le_of_ble_eq_true rfl) (hA _ ?_)
  show WL (ZS b N xs) κ (12, 600000, 7302250) mL_law 550 [some (.ref b), some (.ref (ka κ 0)), some (.ref (ka κ 120)), some (.int (nI i))] [.int v] (wM κ M1) (129, 1847) Q
  refine wl_aload_2 dL_law_550 ?_
  refine wl_aload_0 dL_law_551 ?_
  refine wl_iload_3 dL_law_552 ?_
  refine wl_iconst (v := 1) dL_law_553 rfl ?_
  refine wl_iadd dL_law_554 ?_
  refine wl_sld (j := i + 1) hb dL_law_555 (nI_add i 1) (by omega) (by omega) ?_
  refine wl_callV (As := [.int (xs (i + 1))]) kL_72 dL_law_556 kd_120 rfl ⟨Nat.le_of_ble_eq_true rfl, Nat.le_of_ble_eq_true rfl, Nat.le_of_ble_eq_true rfl⟩ rfl rfl (Nat.le_of_ble_eq_true rfl) (hB _ ?_)
  show WL (ZS b N xs) κ (12, 600000, 7302250) mL_law 559 [some (.ref b), some (.ref (ka κ 0)), some (.ref (ka κ 120)), some (.int (nI i))] [.int v, .int v] (wM κ M2) (129, 1847) Q
  refine wl_icmp_eq (tgt := 1177) dL_law_559 rfl (fun _ => ?_) (fun q => absurd rfl q)
  exact hN M2 hR
set_option maxRecDepth 100000 in
set_option maxHeartbeats 4000000 in
theorem law_14 {κ : KX} {Q : Option Value → va_W → Prop} {b N i : Nat} {xs : Nat → Int32} {M : MM} (hb : b < kb κ) (h4 : N ≤ 448) (hi : i + 7 ≤ N) (hM : REL M) (hN : ∀ M, REL M → WL (ZS b N xs) κ (12, 600000, 7302250) mL_law 1177 [some (.ref b), some (.ref (ka κ 0)), some (.ref (ka κ 120)), some (.int (nI i))] [] (wM κ M) (129, 1847) Q) : WL (ZS b N xs) κ (12, 600000, 7302250) mL_law 564 [some (.ref b), some (.ref (ka κ 0)), some (.ref (ka κ 120)), some (.int (nI i))] [] (wM κ M) (129, 1847) Q := by
  obtain ⟨M1, M2, v, hR, hA, hB⟩ := pr_drift (κ := κ) (a := xs (i + 1)) hM
  refine wl_aload_1 dL_law_564 ?_
  refine wl_aload_0 dL_law_565 ?_
  refine wl_iload_3 dL_law_566 ?_
  refine wl_iconst (v := 1) dL_law_567 rfl ?_
  refine wl_iadd dL_law_568 ?_
  refine wl_sld (j := i + 1) hb dL_law_569 (nI_add i 1) (by omega) (by omega) ?_
  refine wl_callV (As := [.int (xs (i + 1))]) kL_73 dL_law_570 kd_0 rfl ⟨Nat.le_of_ble_eq_true rfl, Nat.le_of_ble_eq_true rfl, Nat.le_of_ble_eq_true rfl⟩ rfl rfl (Nat.le_of_ble_eq_true rfl) (hA _ ?_)
  show WL (ZS b N xs) κ (12, 600000, 7302250) mL_law 573 [some (.ref b), some (.ref (ka κ 0)), some (.ref (ka κ 120)), some (.int (nI i))] [.int v] (wM κ M1) (129, 1847) Q
  refine wl_aload_2 dL_law_573 ?_
  refine wl_aload_0 dL_law_574 ?_
  refine wl_iload_3 dL_law_575 ?_
  refine wl_iconst (v := 1) dL_law_576 rfl ?_
  refine wl_iadd dL_law_577 ?_
  refine wl_sld (j := i + 1) hb dL_law_578 (nI_add i 1) (by omega) (by omega) ?_
  refine wl_callV (As := [.int (xs (i + 1))]) kL_76 dL_law_579 kd_120 rfl ⟨Nat.le_of_ble_eq_true rfl, Nat.le_of_ble_eq_true rfl, Nat.le_of_ble_eq_true rfl⟩ rfl rfl (Nat.le_of_ble_eq_true rfl) (hB _ ?_)
  show WL (ZS b N xs) κ (12, 600000, 7302250) mL_law 582 [some (.ref b), some (.ref (ka κ 0)), some (.ref (ka κ 120)), some (.int (nI i))] [.int v, .int v] (wM κ M2) (129, 1847) Q
  refine wl_icmp_eq (tgt := 1177) dL_law_582 rfl (fun _ => ?_) (fun q => absurd rfl q)
  exact hN M2 hR
set_option maxRecDepth 100000 in
set_option maxHeartbeats 4000000 in
theorem law_15 {κ : KX} {Q : Option Value → va_W → Prop} {b N i : Nat} {xs : Nat → Int32} {M : MM} (hb : b < kb κ) (h4 : N ≤ 448) (hi : i + 7 ≤ N) (hM : REL M) (hN : ∀ M, REL M → WL (ZS b N xs) κ (12, 600000, 7302250) mL_law 1177 [some (.ref b), some (.ref (ka κ 0)), some (.ref (ka κ 120)), some (.int (nI i))] [] (wM κ M) (129, 1847) Q) : WL (ZS b N xs) κ (12, 600000, 7302250) mL_law 587 [some (.ref b), some (.ref (ka κ 0)), some (.ref (ka κ 120)), some (.int (nI i))] [] (wM κ M) (129, 1847) Q := by
  obtain ⟨M1, M2, v, hR, hA, hB⟩ := pr_undo (κ := κ)  hM
  refine wl_aload_1 dL_law_587 ?_
  refine wl_callV (As := []) kL_77 dL_law_588 kd_0 rfl ⟨Nat.le_of_ble_eq_true rfl, Nat.le_of_ble_eq_true rfl, Nat.le_of_ble_eq_true rfl⟩ rfl rfl (Nat.le_of_ble_eq_true rfl) (hA _ ?_)
  show WL (ZS b N xs) κ (12, 600000, 7302250) mL_law 591 [some (.ref b), some (.ref (ka κ 0)), some (.ref (ka κ 120)), some (.int (nI i))] [.int v] (wM κ M1) (129, 1847) Q
  refine wl_aload_2 dL_law_591 ?_
  refine wl_callV (As := []) kL_80 dL_law_592 kd_120 rfl ⟨Nat.le_of_ble_eq_true rfl, Nat.le_of_ble_eq_true rfl, Nat.le_of_ble_eq_true rfl⟩ rfl rfl (Nat.le_of_ble_eq_true rfl) (hB _ ?_)
  show WL (ZS b N xs) κ (12, 600000, 7302250) mL_law 595 [some (.ref b), some (.ref (ka κ 0)), some (.ref (ka κ 120)), some (.int (nI i))] [.int v, .int v] (wM κ M2) (129, 1847) Q
  refine wl_icmp_eq (tgt := 1177) dL_law_595 rfl (fun _ => ?_) (fun q => absurd rfl q)
  exact hN M2 hR
set_option maxRecDepth 100000 in
set_option maxHeartbeats 4000000 in
theorem law_16 {κ : KX} {Q : Option Value → va_W → Prop} {b N i : Nat} {xs : Nat → Int32} {M : MM} (hb : b < kb κ) (h4 : N ≤ 448) (hi : i + 7 ≤ N) (hM : REL M) (hN : ∀ M, REL M → WL (ZS b N xs) κ (12, 600000, 7302250) mL_law 1177 [some (.ref b), some (.ref (ka κ 0)), some (.ref (ka κ 120)), some (.int (nI i))] [] (wM κ M) (129, 1847) Q) : WL (ZS b N xs) κ (12, 600000, 7302250) mL_law 600 [some (.ref b), some (.ref (ka κ 0)), some (.ref (ka κ 120)), some (.int (nI i))] [] (wM κ M) (129, 1847) Q := by
  obtain ⟨M1, M2, v, hR, hA, hB⟩ := pr_seed (κ := κ) (a := xs (i + 1)) hM
  refine wl_aload_1 dL_law_600 ?_
  refine wl_aload_0 dL_law_601 ?_
  refine wl_iload_3 dL_law_602 ?_
  refine wl_iconst (v := 1) dL_law_603 rfl ?_
  refine wl_iadd dL_law_604 ?_
  refine wl_sld (j := i + 1) hb dL_law_605 (nI_add i 1) (by omega) (by omega) ?_
  refine wl_callV (As := [.int (xs (i + 1))]) kL_81 dL_law_606 kd_0 rfl ⟨Nat.le_of_ble_eq_true rfl, Nat.le_of_ble_eq_true rfl, Nat.le_of_ble_eq_true rfl⟩ rfl rfl (Nat.le_of_ble_eq_true rfl) (hA _ ?_)
  show WL (ZS b N xs) κ (12, 600000, 7302250) mL_law 609 [some (.ref b), some (.ref (ka κ 0)), some (.ref (ka κ 120)), some (.int (nI i))] [.int v] (wM κ M1) (129, 1847) Q
  refine wl_aload_2 dL_law_609 ?_
  refine wl_aload_0 dL_law_610 ?_
  refine wl_iload_3 dL_law_611 ?_
  refine wl_iconst (v := 1) dL_law_612 rfl ?_
  refine wl_iadd dL_law_613 ?_
  refine wl_sld (j := i + 1) hb dL_law_614 (nI_add i 1) (by omega) (by omega) ?_
  refine wl_callV (As := [.int (xs (i + 1))]) kL_84 dL_law_615 kd_120 rfl ⟨Nat.le_of_ble_eq_true rfl, Nat.le_of_ble_eq_true rfl, Nat.le_of_ble_eq_true rfl⟩ rfl rfl (Nat.le_of_ble_eq_true rfl) (hB _ ?_)
  show WL (ZS b N xs) κ (12, 600000, 7302250) mL_law 618 [some (.ref b), some (.ref (ka κ 0)), some (.ref (ka κ 120)), some (.int (nI i))] [.int v, .int v] (wM κ M2) (129, 1847) Q
  refine wl_icmp_eq (tgt := 1177) dL_law_618 rfl (fun _ => ?_) (fun q => absurd rfl q)
  exact hN M2 hR
set_option maxRecDepth 100000 in
set_option maxHeartbeats 4000000 in
theorem law_17 {κ : KX} {Q : Option Value → va_W → Prop} {b N i : Nat} {xs : Nat → Int32} {M : MM} (hb : b < kb κ) (h4 : N ≤ 448) (hi : i + 7 ≤ N) (hM : REL M) (hN : ∀ M, REL M → WL (ZS b N xs) κ (12, 600000, 7302250) mL_law 1177 [some (.ref b), some (.ref (ka κ 0)), some (.ref (ka κ 120)), some (.int (nI i))] [] (wM κ M) (129, 1847) Q) : WL (ZS b N xs) κ (12, 600000, 7302250) mL_law 623 [some (.ref b), some (.ref (ka κ 0)), some (.ref (ka κ 120)), some (.int (nI i))] [] (wM κ M) (129, 1847) Q := by
  obtain ⟨M1, M2, v, hR, hA, hB⟩ := pr_ahead (κ := κ) (a := xs (i + 1)) (b := xs (i + 2)) (c := xs (i + 3)) hM
  refine wl_aload_1 dL_law_623 ?_
  refine wl_aload_0 dL_law_624 ?_
  refine wl_iload_3 dL_law_625 ?_
  refine wl_iconst (v := 1) dL_law_626 rfl ?_
  refine wl_iadd dL_law_627 ?_
  refine wl_sld (j := i + 1) hb dL_law_628 (nI_add i 1) (by omega) (by omega) ?_
  refine wl_aload_0 dL_law_629 ?_
  refine wl_iload_3 dL_law_630 ?_
  refine wl_iconst (v := 2) dL_law_631 rfl ?_
  refine wl_iadd dL_law_632 ?_
  refine wl_sld (j := i + 2) hb dL_law_633 (nI_add i 2) (by omega) (by omega) ?_
  refine wl_aload_0 dL_law_634 ?_
  refine wl_iload_3 dL_law_635 ?_
  refine wl_iconst (v := 3) dL_law_636 rfl ?_
  refine wl_iadd dL_law_637 ?_
  refine wl_sld (j := i + 3) hb dL_law_638 (nI_add i 3) (by omega) (by omega) ?_
  refine wl_callV (As := [.int (xs (i + 1)), .int (xs (i + 2)), .int (xs (i + 3))]) kL_85 dL_law_639 kd_0 rfl ⟨Nat.le_of_ble_eq_true rfl, Nat.le_of_ble_eq_true rfl, Nat.le_of_ble_eq_true rfl⟩ rfl rfl (Nat.le_of_ble_eq_true rfl) (hA _ ?_)
  show WL (ZS b N xs) κ (12, 600000, 7302250) mL_law 642 [some (.ref b), some (.ref (ka κ 0)), some (.ref (ka κ 120)), some (.int (nI i))] [.int v] (wM κ M1) (129, 1847) Q
  refine wl_aload_2 dL_law_642 ?_
  refine wl_aload_0 dL_law_643 ?_
  refine wl_iload_3 dL_law_644 ?_
  refine wl_iconst (v := 1) dL_law_645 rfl ?_
  refine wl_iadd dL_law_646 ?_
  refine wl_sld (j := i + 1) hb dL_law_647 (nI_add i 1) (by omega) (by omega) ?_
  refine wl_aload_0 dL_law_648 ?_
  refine wl_iload_3 dL_law_649 ?_
  refine wl_iconst (v := 2) dL_law_650 rfl ?_
  refine wl_iadd dL_law_651 ?_
  refine wl_sld (j := i + 2) hb dL_law_652 (nI_add i 2) (by omega) (by omega) ?_
  refine wl_aload_0 dL_law_653 ?_
  refine wl_iload_3 dL_law_654 ?_
  refine wl_iconst (v := 3) dL_law_655 rfl ?_
  refine wl_iadd dL_law_656 ?_
  refine wl_sld (j := i + 3) hb dL_law_657 (nI_add i 3) (by omega) (by omega) ?_
  refine wl_callV (As := [.int (xs (i + 1)), .int (xs (i + 2)), .int (xs (i + 3))]) kL_88 dL_law_658 kd_120 rfl ⟨Nat.le_of_ble_eq_true rfl, Nat.le_of_ble_eq_true rfl, Nat.le_of_ble_eq_true rfl⟩ rfl rfl (Nat.le_of_ble_eq_true rfl) (hB _ ?_)
  show WL (ZS b N xs) κ (12, 600000, 7302250) mL_law 661 [some (.ref b), some (.ref (ka κ 0)), some (.ref (ka κ 120)), some (.int (nI i))] [.int v, .int v] (wM κ M2) (129, 1847) Q
  refine wl_icmp_eq (tgt := 1177) dL_law_661 rfl (fun _ => ?_) (fun q => absurd rfl q)
  exact hN M2 hR
set_option maxRecDepth 100000 in
set_option maxHeartbeats 4000000 in
theorem law_18 {κ : KX} {Q : Option Value → va_W → Prop} {b N i : Nat} {xs : Nat → Int32} {M : MM} (hb : b < kb κ) (h4 : N ≤ 448) (hi : i + 7 ≤ N) (hM : REL M) (hN : ∀ M, REL M → WL (ZS b N xs) κ (12, 600000, 7302250) mL_law 1177 [some (.ref b), some (.ref (ka κ 0)), some (.ref (ka κ 120)), some (.int (nI i))] [] (wM κ M) (129, 1847) Q) : WL (ZS b N xs) κ (12, 600000, 7302250) mL_law 666 [some (.ref b), some (.ref (ka κ 0)), some (.ref (ka κ 120)), some (.int (nI i))] [] (wM κ M) (129, 1847) Q := by
  obtain ⟨M1, M2, v, hR, hA, hB⟩ := pr_settles (κ := κ)  hM
  refine wl_aload_1 dL_law_666 ?_
  refine wl_callV (As := []) kL_89 dL_law_667 kd_0 rfl ⟨Nat.le_of_ble_eq_true rfl, Nat.le_of_ble_eq_true rfl, Nat.le_of_ble_eq_true rfl⟩ rfl rfl (Nat.le_of_ble_eq_true rfl) (hA _ ?_)
  show WL (ZS b N xs) κ (12, 600000, 7302250) mL_law 670 [some (.ref b), some (.ref (ka κ 0)), some (.ref (ka κ 120)), some (.int (nI i))] [.int v] (wM κ M1) (129, 1847) Q
  refine wl_aload_2 dL_law_670 ?_
  refine wl_callV (As := []) kL_92 dL_law_671 kd_120 rfl ⟨Nat.le_of_ble_eq_true rfl, Nat.le_of_ble_eq_true rfl, Nat.le_of_ble_eq_true rfl⟩ rfl rfl (Nat.le_of_ble_eq_true rfl) (hB _ ?_)
  show WL (ZS b N xs) κ (12, 600000, 7302250) mL_law 674 [some (.ref b), some (.ref (ka κ 0)), some (.ref (ka κ 120)), some (.int (nI i))] [.int v, .int v] (wM κ M2) (129, 1847) Q
  refine wl_icmp_eq (tgt := 1177) dL_law_674 rfl (fun _ => ?_) (fun q => absurd rfl q)
  exact hN M2 hR
set_option maxRecDepth 100000 in
set_option maxHeartbeats 4000000 in
theorem law_19 {κ : KX} {Q : Option Value → va_W → Prop} {b N i : Nat} {xs : Nat → Int32} {M : MM} (hb : b < kb κ) (h4 : N ≤ 448) (hi : i + 7 ≤ N) (hM : REL M) (hN : ∀ M, REL M → WL (ZS b N xs) κ (12, 600000, 7302250) mL_law 1177 [some (.ref b), some (.ref (ka κ 0)), some (.ref (ka κ 120)), some (.int (nI i))] [] (wM κ M) (129, 1847) Q) : WL (ZS b N xs) κ (12, 600000, 7302250) mL_law 679 [some (.ref b), some (.ref (ka κ 0)), some (.ref (ka κ 120)), some (.int (nI i))] [] (wM κ M) (129, 1847) Q := by
  obtain ⟨M1, M2, v, hR, hA, hB⟩ := pr_leastGift (κ := κ) (a := xs (i + 1)) (b := xs (i + 2)) hM
  refine wl_aload_1 dL_law_679 ?_
  refine wl_aload_0 dL_law_680 ?_
  refine wl_iload_3 dL_law_681 ?_
  refine wl_iconst (v := 1) dL_law_682 rfl ?_
  refine wl_iadd dL_law_683 ?_
  refine wl_sld (j := i + 1) hb dL_law_684 (nI_add i 1) (by omega) (by omega) ?_
  refine wl_aload_0 dL_law_685 ?_
  refine wl_iload_3 dL_law_686 ?_
  refine wl_iconst (v := 2) dL_law_687 rfl ?_
  refine wl_iadd dL_law_688 ?_
  refine wl_sld (j := i + 2) hb dL_law_689 (nI_add i 2) (by omega) (by omega) ?_
  refine wl_callV (As := [.int (xs (i + 1)), .int (xs (i + 2))]) kL_93 dL_law_690 kd_0 rfl ⟨Nat.le_of_ble_eq_true rfl, Nat.le_of_ble_eq_true rfl, Nat.le_of_ble_eq_true rfl⟩ rfl rfl (Nat.le_of_ble_eq_true rfl) (hA _ ?_)
  show WL (ZS b N xs) κ (12, 600000, 7302250) mL_law 693 [some (.ref b), some (.ref (ka κ 0)), some (.ref (ka κ 120)), some (.int (nI i))] [.int v] (wM κ M1) (129, 1847) Q
  refine wl_aload_2 dL_law_693 ?_
  refine wl_aload_0 dL_law_694 ?_
  refine wl_iload_3 dL_law_695 ?_
  refine wl_iconst (v := 1) dL_law_696 rfl ?_
  refine wl_iadd dL_law_697 ?_
  refine wl_sld (j := i + 1) hb dL_law_698 (nI_add i 1) (by omega) (by omega) ?_
  refine wl_aload_0 dL_law_699 ?_
  refine wl_iload_3 dL_law_700 ?_
  refine wl_iconst (v := 2) dL_law_701 rfl ?_
  refine wl_iadd dL_law_702 ?_
  refine wl_sld (j := i + 2) hb dL_law_703 (nI_add i 2) (by omega) (by omega) ?_
  refine wl_callV (As := [.int (xs (i + 1)), .int (xs (i + 2))]) kL_96 dL_law_704 kd_120 rfl ⟨Nat.le_of_ble_eq_true rfl, Nat.le_of_ble_eq_true rfl, Nat.le_of_ble_eq_true rfl⟩ rfl rfl (Nat.le_of_ble_eq_true rfl) (hB _ ?_)
  show WL (ZS b N xs) κ (12, 600000, 7302250) mL_law 707 [some (.ref b), some (.ref (ka κ 0)), some (.ref (ka κ 120)), some (.int (nI i))] [.int v, .int v] (wM κ M2) (129, 1847) Q
  refine wl_icmp_eq (tgt := 1177) dL_law_707 rfl (fun _ => ?_) (fun q => absurd rfl q)
  exact hN M2 hR
set_option maxRecDepth 100000 in
set_option maxHeartbeats 4000000 in
theorem law_20 {κ : KX} {Q : Option Value → va_W → Prop} {b N i : Nat} {xs : Nat → Int32} {M : MM} (hb : b < kb κ) (h4 : N ≤ 448) (hi : i + 7 ≤ N) (hM : REL M) (hN : ∀ M, REL M → WL (ZS b N xs) κ (12, 600000, 7302250) mL_law 1177 [some (.ref b), some (.ref (ka κ 0)), some (.ref (ka κ 120)), some (.int (nI i))] [] (wM κ M) (129, 1847) Q) : WL (ZS b N xs) κ (12, 600000, 7302250) mL_law 712 [some (.ref b), some (.ref (ka κ 0)), some (.ref (ka κ 120)), some (.int (nI i))] [] (wM κ M) (129, 1847) Q := by
  obtain ⟨M1, M2, v, hR, hA, hB⟩ := pr_sorries (κ := κ) (a := xs (i + 1)) (b := xs (i + 2)) hM
  refine wl_aload_1 dL_law_712 ?_
  refine wl_aload_0 dL_law_713 ?_
  refine wl_iload_3 dL_law_714 ?_
  refine wl_iconst (v := 1) dL_law_715 rfl ?_
  refine wl_iadd dL_law_716 ?_
  refine wl_sld (j := i + 1) hb dL_law_717 (nI_add i 1) (by omega) (by omega) ?_
  refine wl_aload_0 dL_law_718 ?_
  refine wl_iload_3 dL_law_719 ?_
  refine wl_iconst (v := 2) dL_law_720 rfl ?_
  refine wl_iadd dL_law_721 ?_
  refine wl_sld (j := i + 2) hb dL_law_722 (nI_add i 2) (by omega) (by omega) ?_
  refine wl_callV (As := [.int (xs (i + 1)), .int (xs (i + 2))]) kL_97 dL_law_723 kd_0 rfl ⟨Nat.le_of_ble_eq_true rfl, Nat.le_of_ble_eq_true rfl, Nat.le_of_ble_eq_true rfl⟩ rfl rfl (Nat.le_of_ble_eq_true rfl) (hA _ ?_)
  show WL (ZS b N xs) κ (12, 600000, 7302250) mL_law 726 [some (.ref b), some (.ref (ka κ 0)), some (.ref (ka κ 120)), some (.int (nI i))] [.int v] (wM κ M1) (129, 1847) Q
  refine wl_aload_2 dL_law_726 ?_
  refine wl_aload_0 dL_law_727 ?_
  refine wl_iload_3 dL_law_728 ?_
  refine wl_iconst (v := 1) dL_law_729 rfl ?_
  refine wl_iadd dL_law_730 ?_
  refine wl_sld (j := i + 1) hb dL_law_731 (nI_add i 1) (by omega) (by omega) ?_
  refine wl_aload_0 dL_law_732 ?_
  refine wl_iload_3 dL_law_733 ?_
  refine wl_iconst (v := 2) dL_law_734 rfl ?_
  refine wl_iadd dL_law_735 ?_
  refine wl_sld (j := i + 2) hb dL_law_736 (nI_add i 2) (by omega) (by omega) ?_
  refine wl_callV (As := [.int (xs (i + 1)), .int (xs (i + 2))]) kL_100 dL_law_737 kd_120 rfl ⟨Nat.le_of_ble_eq_true rfl, Nat.le_of_ble_eq_true rfl, Nat.le_of_ble_eq_true rfl⟩ rfl rfl (Nat.le_of_ble_eq_true rfl) (hB _ ?_)
  show WL (ZS b N xs) κ (12, 600000, 7302250) mL_law 740 [some (.ref b), some (.ref (ka κ 0)), some (.ref (ka κ 120)), some (.int (nI i))] [.int v, .int v] (wM κ M2) (129, 1847) Q
  refine wl_icmp_eq (tgt := 1177) dL_law_740 rfl (fun _ => ?_) (fun q => absurd rfl q)
  exact hN M2 hR
set_option maxRecDepth 100000 in
set_option maxHeartbeats 4000000 in
theorem law_21 {κ : KX} {Q : Option Value → va_W → Prop} {b N i : Nat} {xs : Nat → Int32} {M : MM} (hb : b < kb κ) (h4 : N ≤ 448) (hi : i + 7 ≤ N) (hM : REL M) (hN : ∀ M, REL M → WL (ZS b N xs) κ (12, 600000, 7302250) mL_law 1177 [some (.ref b), some (.ref (ka κ 0)), some (.ref (ka κ 120)), some (.int (nI i))] [] (wM κ M) (129, 1847) Q) : WL (ZS b N xs) κ (12, 600000, 7302250) mL_law 745 [some (.ref b), some (.ref (ka κ 0)), some (.ref (ka κ 120)), some (.int (nI i))] [] (wM κ M) (129, 1847) Q := by
  obtain ⟨M1, M2, v, hR, hA, hB⟩ := pr_stir (κ := κ) (a := xs (i + 1)) (b := xs (i + 2)) hM
  refine wl_aload_1 dL_law_745 ?_
  refine wl_aload_0 dL_law_746 ?_
  refine wl_iload_3 dL_law_747 ?_
  refine wl_iconst (v := 1) dL_law_748 rfl ?_
  refine wl_iadd dL_law_749 ?_
  refine wl_sld (j := i + 1) hb dL_law_750 (nI_add i 1) (by omega) (by omega) ?_
  refine wl_aload_0 dL_law_751 ?_
  refine wl_iload_3 dL_law_752 ?_
  refine wl_iconst (v := 2) dL_law_753 rfl ?_
  refine wl_iadd dL_law_754 ?_
  refine wl_sld (j := i + 2) hb dL_law_755 (nI_add i 2) (by omega) (by omega) ?_
  refine wl_callV (As := [.int (xs (i + 1)), .int (xs (i + 2))]) kL_101 dL_law_756 kd_0 rfl ⟨Nat.le_of_ble_eq_true rfl, Nat.le_of_ble_eq_true rfl, Nat.le_of_ble_eq_true rfl⟩ rfl rfl (Nat.le_of_ble_eq_true rfl) (hA _ ?_)
  show WL (ZS b N xs) κ (12, 600000, 7302250) mL_law 759 [some (.ref b), some (.ref (ka κ 0)), some (.ref (ka κ 120)), some (.int (nI i))] [.int v] (wM κ M1) (129, 1847) Q
  refine wl_aload_2 dL_law_759 ?_
  refine wl_aload_0 dL_law_760 ?_
  refine wl_iload_3 dL_law_761 ?_
  refine wl_iconst (v := 1) dL_law_762 rfl ?_
  refine wl_iadd dL_law_763 ?_
  refine wl_sld (j := i + 1) hb dL_law_764 (nI_add i 1) (by omega) (by omega) ?_
  refine wl_aload_0 dL_law_765 ?_
  refine wl_iload_3 dL_law_766 ?_
  refine wl_iconst (v := 2) dL_law_767 rfl ?_
  refine wl_iadd dL_law_768 ?_
  refine wl_sld (j := i + 2) hb dL_law_769 (nI_add i 2) (by omega) (by omega) ?_
  refine wl_callV (As := [.int (xs (i + 1)), .int (xs (i + 2))]) kL_104 dL_law_770 kd_120 rfl ⟨Nat.le_of_ble_eq_true rfl, Nat.le_of_ble_eq_true rfl, Nat.le_of_ble_eq_true rfl⟩ rfl rfl (Nat.le_of_ble_eq_true rfl) (hB _ ?_)
  show WL (ZS b N xs) κ (12, 600000, 7302250) mL_law 773 [some (.ref b), some (.ref (ka κ 0)), some (.ref (ka κ 120)), some (.int (nI i))] [.int v, .int v] (wM κ M2) (129, 1847) Q
  refine wl_icmp_eq (tgt := 1177) dL_law_773 rfl (fun _ => ?_) (fun q => absurd rfl q)
  exact hN M2 hR
set_option maxRecDepth 100000 in
set_option maxHeartbeats 4000000 in
theorem law_22 {κ : KX} {Q : Option Value → va_W → Prop} {b N i : Nat} {xs : Nat → Int32} {M : MM} (hb : b < kb κ) (h4 : N ≤ 448) (hi : i + 7 ≤ N) (hM : REL M) (hN : ∀ M, REL M → WL (ZS b N xs) κ (12, 600000, 7302250) mL_law 1177 [some (.ref b), some (.ref (ka κ 0)), some (.ref (ka κ 120)), some (.int (nI i))] [] (wM κ M) (129, 1847) Q) : WL (ZS b N xs) κ (12, 600000, 7302250) mL_law 778 [some (.ref b), some (.ref (ka κ 0)), some (.ref (ka κ 120)), some (.int (nI i))] [] (wM κ M) (129, 1847) Q := by
  obtain ⟨M1, M2, v, hR, hA, hB⟩ := pr_holds (κ := κ) (a := xs (i + 1)) hM
  refine wl_aload_1 dL_law_778 ?_
  refine wl_aload_0 dL_law_779 ?_
  refine wl_iload_3 dL_law_780 ?_
  refine wl_iconst (v := 1) dL_law_781 rfl ?_
  refine wl_iadd dL_law_782 ?_
  refine wl_sld (j := i + 1) hb dL_law_783 (nI_add i 1) (by omega) (by omega) ?_
  refine wl_callV (As := [.int (xs (i + 1))]) kL_105 dL_law_784 kd_0 rfl ⟨Nat.le_of_ble_eq_true rfl, Nat.le_of_ble_eq_true rfl, Nat.le_of_ble_eq_true rfl⟩ rfl rfl (Nat.le_of_ble_eq_true rfl) (hA _ ?_)
  show WL (ZS b N xs) κ (12, 600000, 7302250) mL_law 787 [some (.ref b), some (.ref (ka κ 0)), some (.ref (ka κ 120)), some (.int (nI i))] [.int v] (wM κ M1) (129, 1847) Q
  refine wl_aload_2 dL_law_787 ?_
  refine wl_aload_0 dL_law_788 ?_
  refine wl_iload_3 dL_law_789 ?_
  refine wl_iconst (v := 1) dL_law_790 rfl ?_
  refine wl_iadd dL_law_791 ?_
  refine wl_sld (j := i + 1) hb dL_law_792 (nI_add i 1) (by omega) (by omega) ?_
  refine wl_callV (As := [.int (xs (i + 1))]) kL_108 dL_law_793 kd_120 rfl ⟨Nat.le_of_ble_eq_true rfl, Nat.le_of_ble_eq_true rfl, Nat.le_of_ble_eq_true rfl⟩ rfl rfl (Nat.le_of_ble_eq_true rfl) (hB _ ?_)
  show WL (ZS b N xs) κ (12, 600000, 7302250) mL_law 796 [some (.ref b), some (.ref (ka κ 0)), some (.ref (ka κ 120)), some (.int (nI i))] [.int v, .int v] (wM κ M2) (129, 1847) Q
  refine wl_icmp_eq (tgt := 1177) dL_law_796 rfl (fun _ => ?_) (fun q => absurd rfl q)
  exact hN M2 hR
set_option maxRecDepth 100000 in
set_option maxHeartbeats 4000000 in
theorem law_23 {κ : KX} {Q : Option Value → va_W → Prop} {b N i : Nat} {xs : Nat → Int32} {M : MM} (hb : b < kb κ) (h4 : N ≤ 448) (hi : i + 7 ≤ N) (hM : REL M) (hN : ∀ M, REL M → WL (ZS b N xs) κ (12, 600000, 7302250) mL_law 1177 [some (.ref b), some (.ref (ka κ 0)), some (.ref (ka κ 120)), some (.int (nI i))] [] (wM κ M) (129, 1847) Q) : WL (ZS b N xs) κ (12, 600000, 7302250) mL_law 801 [some (.ref b), some (.ref (ka κ 0)), some (.ref (ka κ 120)), some (.int (nI i))] [] (wM κ M) (129, 1847) Q := by
  obtain ⟨M1, M2, v, hR, hA, hB⟩ := pr_image (κ := κ)  hM
  refine wl_aload_1 dL_law_801 ?_
  refine wl_callV (As := []) kL_109 dL_law_802 kd_0 rfl ⟨Nat.le_of_ble_eq_true rfl, Nat.le_of_ble_eq_true rfl, Nat.le_of_ble_eq_true rfl⟩ rfl rfl (Nat.le_of_ble_eq_true rfl) (hA _ ?_)
  show WL (ZS b N xs) κ (12, 600000, 7302250) mL_law 805 [some (.ref b), some (.ref (ka κ 0)), some (.ref (ka κ 120)), some (.int (nI i))] [.int v] (wM κ M1) (129, 1847) Q
  refine wl_aload_2 dL_law_805 ?_
  refine wl_callV (As := []) kL_112 dL_law_806 kd_120 rfl ⟨Nat.le_of_ble_eq_true rfl, Nat.le_of_ble_eq_true rfl, Nat.le_of_ble_eq_true rfl⟩ rfl rfl (Nat.le_of_ble_eq_true rfl) (hB _ ?_)
  show WL (ZS b N xs) κ (12, 600000, 7302250) mL_law 809 [some (.ref b), some (.ref (ka κ 0)), some (.ref (ka κ 120)), some (.int (nI i))] [.int v, .int v] (wM κ M2) (129, 1847) Q
  refine wl_icmp_eq (tgt := 1177) dL_law_809 rfl (fun _ => ?_) (fun q => absurd rfl q)
  exact hN M2 hR
set_option maxRecDepth 100000 in
set_option maxHeartbeats 4000000 in
theorem law_24 {κ : KX} {Q : Option Value → va_W → Prop} {b N i : Nat} {xs : Nat → Int32} {M : MM} (hb : b < kb κ) (h4 : N ≤ 448) (hi : i + 7 ≤ N) (hM : REL M) (hN : ∀ M, REL M → WL (ZS b N xs) κ (12, 600000, 7302250) mL_law 1177 [some (.ref b), some (.ref (ka κ 0)), some (.ref (ka κ 120)), some (.int (nI i))] [] (wM κ M) (129, 1847) Q) : WL (ZS b N xs) κ (12, 600000, 7302250) mL_law 814 [some (.ref b), some (.ref (ka κ 0)), some (.ref (ka κ 120)), some (.int (nI i))] [] (wM κ M) (129, 1847) Q := by
  obtain ⟨M1, M2, v, hR, hA, hB⟩ := pr_restore (κ := κ)  hM
  refine wl_aload_1 dL_law_814 ?_
  refine wl_callV (As := []) kL_113 dL_law_815 kd_0 rfl ⟨Nat.le_of_ble_eq_true rfl, Nat.le_of_ble_eq_true rfl, Nat.le_of_ble_eq_true rfl⟩ rfl rfl (Nat.le_of_ble_eq_true rfl) (hA _ ?_)
  show WL (ZS b N xs) κ (12, 600000, 7302250) mL_law 818 [some (.ref b), some (.ref (ka κ 0)), some (.ref (ka κ 120)), some (.int (nI i))] [.int v] (wM κ M1) (129, 1847) Q
  refine wl_aload_2 dL_law_818 ?_
  refine wl_callV (As := []) kL_116 dL_law_819 kd_120 rfl ⟨Nat.le_of_ble_eq_true rfl, Nat.le_of_ble_eq_true rfl, Nat.le_of_ble_eq_true rfl⟩ rfl rfl (Nat.le_of_ble_eq_true rfl) (hB _ ?_)
  show WL (ZS b N xs) κ (12, 600000, 7302250) mL_law 822 [some (.ref b), some (.ref (ka κ 0)), some (.ref (ka κ 120)), some (.int (nI i))] [.int v, .int v] (wM κ M2) (129, 1847) Q
  refine wl_icmp_eq (tgt := 1177) dL_law_822 rfl (fun _ => ?_) (fun q => absurd rfl q)
  exact hN M2 hR
set_option maxRecDepth 100000 in
set_option maxHeartbeats 4000000 in
theorem law_25 {κ : KX} {Q : Option Value → va_W → Prop} {b N i : Nat} {xs : Nat → Int32} {M : MM} (hb : b < kb κ) (h4 : N ≤ 448) (hi : i + 7 ≤ N) (hM : REL M) (hN : ∀ M, REL M → WL (ZS b N xs) κ (12, 600000, 7302250) mL_law 1177 [some (.ref b), some (.ref (ka κ 0)), some (.ref (ka κ 120)), some (.int (nI i))] [] (wM κ M) (129, 1847) Q) : WL (ZS b N xs) κ (12, 600000, 7302250) mL_law 827 [some (.ref b), some (.ref (ka κ 0)), some (.ref (ka κ 120)), some (.int (nI i))] [] (wM κ M) (129, 1847) Q := by
  obtain ⟨M1, M2, v, hR, hA, hB⟩ := pr_seen (κ := κ) (a := xs (i + 1)) (b := xs (i + 2)) (c := xs (i + 3)) (d := xs (i + 4)) (e := xs (i + 5)) (f := xs (i + 6)) hM
  refine wl_aload_1 dL_law_827 ?_
  refine wl_aload_0 dL_law_828 ?_
  refine wl_iload_3 dL_law_829 ?_
  refine wl_iconst (v := 1) dL_law_830 rfl ?_
  refine wl_iadd dL_law_831 ?_
  refine wl_sld (j := i + 1) hb dL_law_832 (nI_add i 1) (by omega) (by omega) ?_
  refine wl_aload_0 dL_law_833 ?_
  refine wl_iload_3 dL_law_834 ?_
  refine wl_iconst (v := 2) dL_law_835 rfl ?_
  refine wl_iadd dL_law_836 ?_
  refine wl_sld (j := i + 2) hb dL_law_837 (nI_add i 2) (by omega) (by omega) ?_
  refine wl_aload_0 dL_law_838 ?_
  refine wl_iload_3 dL_law_839 ?_
  refine wl_iconst (v := 3) dL_law_840 rfl ?_
  refine wl_iadd dL_law_841 ?_
  refine wl_sld (j := i + 3) hb dL_law_842 (nI_add i 3) (by omega) (by omega) ?_
  refine wl_aload_0 dL_law_843 ?_
  refine wl_iload_3 dL_law_844 ?_
  refine wl_iconst (v := 4) dL_law_845 rfl ?_
  refine wl_iadd dL_law_846 ?_
  refine wl_sld (j := i + 4) hb dL_law_847 (nI_add i 4) (by omega) (by omega) ?_
  refine wl_aload_0 dL_law_848 ?_
  refine wl_iload_3 dL_law_849 ?_
  refine wl_iconst (v := 5) dL_law_850 rfl ?_
  refine wl_iadd dL_law_851 ?_
  refine wl_sld (j := i + 5) hb dL_law_852 (nI_add i 5) (by omega) (by omega) ?_
  refine wl_aload_0 dL_law_853 ?_
  refine wl_iload_3 dL_law_854 ?_
  refine wl_bipush (v := 6) dL_law_855 rfl ?_
  refine wl_iadd dL_law_857 ?_
  refine wl_sld (j := i + 6) hb dL_law_858 (nI_add i 6) (by omega) (by omega) ?_
  refine wl_callV (As := [.int (xs (i + 1)), .int (xs (i + 2)), .int (xs (i + 3)), .int (xs (i + 4)), .int (xs (i + 5)), .int (xs (i + 6))]) kL_117 dL_law_859 kd_0 rfl ⟨Nat.le_of_ble_eq_true rfl, Nat.le_of_ble_eq_true rfl, Nat.le_of_ble_eq_true rfl⟩ rfl rfl (Nat.le_of_ble_eq_true rfl) (hA _ ?_)
  show WL (ZS b N xs) κ (12, 600000, 7302250) mL_law 862 [some (.ref b), some (.ref (ka κ 0)), some (.ref (ka κ 120)), some (.int (nI i))] [.int v] (wM κ M1) (129, 1847) Q
  refine wl_aload_2 dL_law_862 ?_
  refine wl_aload_0 dL_law_863 ?_
  refine wl_iload_3 dL_law_864 ?_
  refine wl_iconst (v := 1) dL_law_865 rfl ?_
  refine wl_iadd dL_law_866 ?_
  refine wl_sld (j := i + 1) hb dL_law_867 (nI_add i 1) (by omega) (by omega) ?_
  refine wl_aload_0 dL_law_868 ?_
  refine wl_iload_3 dL_law_869 ?_
  refine wl_iconst (v := 2) dL_law_870 rfl ?_
  refine wl_iadd dL_law_871 ?_
  refine wl_sld (j := i + 2) hb dL_law_872 (nI_add i 2) (by omega) (by omega) ?_
  refine wl_aload_0 dL_law_873 ?_
  refine wl_iload_3 dL_law_874 ?_
  refine wl_iconst (v := 3) dL_law_875 rfl ?_
  refine wl_iadd dL_law_876 ?_
  refine wl_sld (j := i + 3) hb dL_law_877 (nI_add i 3) (by omega) (by omega) ?_
  refine wl_aload_0 dL_law_878 ?_
  refine wl_iload_3 dL_law_879 ?_
  refine wl_iconst (v := 4) dL_law_880 rfl ?_
  refine wl_iadd dL_law_881 ?_
  refine wl_sld (j := i + 4) hb dL_law_882 (nI_add i 4) (by omega) (by omega) ?_
  refine wl_aload_0 dL_law_883 ?_
  refine wl_iload_3 dL_law_884 ?_
  refine wl_iconst (v := 5) dL_law_885 rfl ?_
  refine wl_iadd dL_law_886 ?_
  refine wl_sld (j := i + 5) hb dL_law_887 (nI_add i 5) (by omega) (by omega) ?_
  refine wl_aload_0 dL_law_888 ?_
  refine wl_iload_3 dL_law_889 ?_
  refine wl_bipush (v := 6) dL_law_890 rfl ?_
  refine wl_iadd dL_law_892 ?_
  refine wl_sld (j := i + 6) hb dL_law_893 (nI_add i 6) (by omega) (by omega) ?_
  refine wl_callV (As := [.int (xs (i + 1)), .int (xs (i + 2)), .int (xs (i + 3)), .int (xs (i + 4)), .int (xs (i + 5)), .int (xs (i + 6))]) kL_121 dL_law_894 kd_120 rfl ⟨Nat.le_of_ble_eq_true rfl, Nat.le_of_ble_eq_true rfl, Nat.le_of_ble_eq_true rfl⟩ rfl rfl (Nat.le_of_ble_eq_true rfl) (hB _ ?_)
  show WL (ZS b N xs) κ (12, 600000, 7302250) mL_law 897 [some (.ref b), some (.ref (ka κ 0)), some (.ref (ka κ 120)), some (.int (nI i))] [.int v, .int v] (wM κ M2) (129, 1847) Q
  refine wl_icmp_eq (tgt := 1177) dL_law_897 rfl (fun _ => ?_) (fun q => absurd rfl q)
  exact hN M2 hR
set_option maxRecDepth 100000 in
set_option maxHeartbeats 4000000 in
theorem law_26 {κ : KX} {Q : Option Value → va_W → Prop} {b N i : Nat} {xs : Nat → Int32} {M : MM} (hb : b < kb κ) (h4 : N ≤ 448) (hi : i + 7 ≤ N) (hM : REL M) (hN : ∀ M, REL M → WL (ZS b N xs) κ (12, 600000, 7302250) mL_law 1177 [some (.ref b), some (.ref (ka κ 0)), some (.ref (ka κ 120)), some (.int (nI i))] [] (wM κ M) (129, 1847) Q) : WL (ZS b N xs) κ (12, 600000, 7302250) mL_law 902 [some (.ref b), some (.ref (ka κ 0)), some (.ref (ka κ 120)), some (.int (nI i))] [] (wM κ M) (129, 1847) Q := by
  obtain ⟨M1, M2, v, hR, hA, hB⟩ := pr_film (κ := κ) (a := xs (i + 1)) (b := xs (i + 2)) (c := xs (i + 3)) (d := xs (i + 4)) (e := xs (i + 5)) hM
  refine wl_aload_1 dL_law_902 ?_
  refine wl_aload_0 dL_law_903 ?_
  refine wl_iload_3 dL_law_904 ?_
  refine wl_iconst (v := 1) dL_law_905 rfl ?_
  refine wl_iadd dL_law_906 ?_
  refine wl_sld (j := i + 1) hb dL_law_907 (nI_add i 1) (by omega) (by omega) ?_
  refine wl_aload_0 dL_law_908 ?_
  refine wl_iload_3 dL_law_909 ?_
  refine wl_iconst (v := 2) dL_law_910 rfl ?_
  refine wl_iadd dL_law_911 ?_
  refine wl_sld (j := i + 2) hb dL_law_912 (nI_add i 2) (by omega) (by omega) ?_
  refine wl_aload_0 dL_law_913 ?_
  refine wl_iload_3 dL_law_914 ?_
  refine wl_iconst (v := 3) dL_law_915 rfl ?_
  refine wl_iadd dL_law_916 ?_
  refine wl_sld (j := i + 3) hb dL_law_917 (nI_add i 3) (by omega) (by omega) ?_
  refine wl_aload_0 dL_law_918 ?_
  refine wl_iload_3 dL_law_919 ?_
  refine wl_iconst (v := 4) dL_law_920 rfl ?_
  refine wl_iadd dL_law_921 ?_
  refine wl_sld (j := i + 4) hb dL_law_922 (nI_add i 4) (by omega) (by omega) ?_
  refine wl_aload_0 dL_law_923 ?_
  refine wl_iload_3 dL_law_924 ?_
  refine wl_iconst (v := 5) dL_law_925 rfl ?_
  refine wl_iadd dL_law_926 ?_
  refine wl_sld (j := i + 5) hb dL_law_927 (nI_add i 5) (by omega) (by omega) ?_
  refine wl_callV (As := [.int (xs (i + 1)), .int (xs (i + 2)), .int (xs (i + 3)), .int (xs (i + 4)), .int (xs (i + 5))]) kL_122 dL_law_928 kd_0 rfl ⟨Nat.le_of_ble_eq_true rfl, Nat.le_of_ble_eq_true rfl, Nat.le_of_ble_eq_true rfl⟩ rfl rfl (Nat.le_of_ble_eq_true rfl) (hA _ ?_)
  show WL (ZS b N xs) κ (12, 600000, 7302250) mL_law 931 [some (.ref b), some (.ref (ka κ 0)), some (.ref (ka κ 120)), some (.int (nI i))] [.int v] (wM κ M1) (129, 1847) Q
  refine wl_aload_2 dL_law_931 ?_
  refine wl_aload_0 dL_law_932 ?_
  refine wl_iload_3 dL_law_933 ?_
  refine wl_iconst (v := 1) dL_law_934 rfl ?_
  refine wl_iadd dL_law_935 ?_
  refine wl_sld (j := i + 1) hb dL_law_936 (nI_add i 1) (by omega) (by omega) ?_
  refine wl_aload_0 dL_law_937 ?_
  refine wl_iload_3 dL_law_938 ?_
  refine wl_iconst (v := 2) dL_law_939 rfl ?_
  refine wl_iadd dL_law_940 ?_
  refine wl_sld (j := i + 2) hb dL_law_941 (nI_add i 2) (by omega) (by omega) ?_
  refine wl_aload_0 dL_law_942 ?_
  refine wl_iload_3 dL_law_943 ?_
  refine wl_iconst (v := 3) dL_law_944 rfl ?_
  refine wl_iadd dL_law_945 ?_
  refine wl_sld (j := i + 3) hb dL_law_946 (nI_add i 3) (by omega) (by omega) ?_
  refine wl_aload_0 dL_law_947 ?_
  refine wl_iload_3 dL_law_948 ?_
  refine wl_iconst (v := 4) dL_law_949 rfl ?_
  refine wl_iadd dL_law_950 ?_
  refine wl_sld (j := i + 4) hb dL_law_951 (nI_add i 4) (by omega) (by omega) ?_
  refine wl_aload_0 dL_law_952 ?_
  refine wl_iload_3 dL_law_953 ?_
  refine wl_iconst (v := 5) dL_law_954 rfl ?_
  refine wl_iadd dL_law_955 ?_
  refine wl_sld (j := i + 5) hb dL_law_956 (nI_add i 5) (by omega) (by omega) ?_
  refine wl_callV (As := [.int (xs (i + 1)), .int (xs (i + 2)), .int (xs (i + 3)), .int (xs (i + 4)), .int (xs (i + 5))]) kL_126 dL_law_957 kd_120 rfl ⟨Nat.le_of_ble_eq_true rfl, Nat.le_of_ble_eq_true rfl, Nat.le_of_ble_eq_true rfl⟩ rfl rfl (Nat.le_of_ble_eq_true rfl) (hB _ ?_)
  show WL (ZS b N xs) κ (12, 600000, 7302250) mL_law 960 [some (.ref b), some (.ref (ka κ 0)), some (.ref (ka κ 120)), some (.int (nI i))] [.int v, .int v] (wM κ M2) (129, 1847) Q
  refine wl_icmp_eq (tgt := 1177) dL_law_960 rfl (fun _ => ?_) (fun q => absurd rfl q)
  exact hN M2 hR
set_option maxRecDepth 100000 in
set_option maxHeartbeats 4000000 in
theorem law_27 {κ : KX} {Q : Option Value → va_W → Prop} {b N i : Nat} {xs : Nat → Int32} {M : MM} (hb : b < kb κ) (h4 : N ≤ 448) (hi : i + 7 ≤ N) (hM : REL M) (hN : ∀ M, REL M → WL (ZS b N xs) κ (12, 600000, 7302250) mL_law 1177 [some (.ref b), some (.ref (ka κ 0)), some (.ref (ka κ 120)), some (.int (nI i))] [] (wM κ M) (129, 1847) Q) : WL (ZS b N xs) κ (12, 600000, 7302250) mL_law 965 [some (.ref b), some (.ref (ka κ 0)), some (.ref (ka κ 120)), some (.int (nI i))] [] (wM κ M) (129, 1847) Q := by
  obtain ⟨M1, M2, v, hR, hA, hB⟩ := pr_sheet (κ := κ) (a := xs (i + 1)) (b := xs (i + 2)) (c := xs (i + 3)) hM
  refine wl_aload_1 dL_law_965 ?_
  refine wl_aload_0 dL_law_966 ?_
  refine wl_iload_3 dL_law_967 ?_
  refine wl_iconst (v := 1) dL_law_968 rfl ?_
  refine wl_iadd dL_law_969 ?_
  refine wl_sld (j := i + 1) hb dL_law_970 (nI_add i 1) (by omega) (by omega) ?_
  refine wl_aload_0 dL_law_971 ?_
  refine wl_iload_3 dL_law_972 ?_
  refine wl_iconst (v := 2) dL_law_973 rfl ?_
  refine wl_iadd dL_law_974 ?_
  refine wl_sld (j := i + 2) hb dL_law_975 (nI_add i 2) (by omega) (by omega) ?_
  refine wl_aload_0 dL_law_976 ?_
  refine wl_iload_3 dL_law_977 ?_
  refine wl_iconst (v := 3) dL_law_978 rfl ?_
  refine wl_iadd dL_law_979 ?_
  refine wl_sld (j := i + 3) hb dL_law_980 (nI_add i 3) (by omega) (by omega) ?_
  refine wl_callV (As := [.int (xs (i + 1)), .int (xs (i + 2)), .int (xs (i + 3))]) kL_127 dL_law_981 kd_0 rfl ⟨Nat.le_of_ble_eq_true rfl, Nat.le_of_ble_eq_true rfl, Nat.le_of_ble_eq_true rfl⟩ rfl rfl (Nat.le_of_ble_eq_true rfl) (hA _ ?_)
  show WL (ZS b N xs) κ (12, 600000, 7302250) mL_law 984 [some (.ref b), some (.ref (ka κ 0)), some (.ref (ka κ 120)), some (.int (nI i))] [.int v] (wM κ M1) (129, 1847) Q
  refine wl_aload_2 dL_law_984 ?_
  refine wl_aload_0 dL_law_985 ?_
  refine wl_iload_3 dL_law_986 ?_
  refine wl_iconst (v := 1) dL_law_987 rfl ?_
  refine wl_iadd dL_law_988 ?_
  refine wl_sld (j := i + 1) hb dL_law_989 (nI_add i 1) (by omega) (by omega) ?_
  refine wl_aload_0 dL_law_990 ?_
  refine wl_iload_3 dL_law_991 ?_
  refine wl_iconst (v := 2) dL_law_992 rfl ?_
  refine wl_iadd dL_law_993 ?_
  refine wl_sld (j := i + 2) hb dL_law_994 (nI_add i 2) (by omega) (by omega) ?_
  refine wl_aload_0 dL_law_995 ?_
  refine wl_iload_3 dL_law_996 ?_
  refine wl_iconst (v := 3) dL_law_997 rfl ?_
  refine wl_iadd dL_law_998 ?_
  refine wl_sld (j := i + 3) hb dL_law_999 (nI_add i 3) (by omega) (by omega) ?_
  refine wl_callV (As := [.int (xs (i + 1)), .int (xs (i + 2)), .int (xs (i + 3))]) kL_130 dL_law_1000 kd_120 rfl ⟨Nat.le_of_ble_eq_true rfl, Nat.le_of_ble_eq_true rfl, Nat.le_of_ble_eq_true rfl⟩ rfl rfl (Nat.le_of_ble_eq_true rfl) (hB _ ?_)
  show WL (ZS b N xs) κ (12, 600000, 7302250) mL_law 1003 [some (.ref b), some (.ref (ka κ 0)), some (.ref (ka κ 120)), some (.int (nI i))] [.int v, .int v] (wM κ M2) (129, 1847) Q
  refine wl_icmp_eq (tgt := 1177) dL_law_1003 rfl (fun _ => ?_) (fun q => absurd rfl q)
  exact hN M2 hR
set_option maxRecDepth 100000 in
set_option maxHeartbeats 4000000 in
theorem law_28 {κ : KX} {Q : Option Value → va_W → Prop} {b N i : Nat} {xs : Nat → Int32} {M : MM} (hb : b < kb κ) (h4 : N ≤ 448) (hi : i + 7 ≤ N) (hM : REL M) (hN : ∀ M, REL M → WL (ZS b N xs) κ (12, 600000, 7302250) mL_law 1177 [some (.ref b), some (.ref (ka κ 0)), some (.ref (ka κ 120)), some (.int (nI i))] [] (wM κ M) (129, 1847) Q) : WL (ZS b N xs) κ (12, 600000, 7302250) mL_law 1008 [some (.ref b), some (.ref (ka κ 0)), some (.ref (ka κ 120)), some (.int (nI i))] [] (wM κ M) (129, 1847) Q := by
  obtain ⟨M1, M2, v, hR, hA, hB⟩ := pr_drop (κ := κ) (a := xs (i + 1)) hM
  refine wl_aload_1 dL_law_1008 ?_
  refine wl_aload_0 dL_law_1009 ?_
  refine wl_iload_3 dL_law_1010 ?_
  refine wl_iconst (v := 1) dL_law_1011 rfl ?_
  refine wl_iadd dL_law_1012 ?_
  refine wl_sld (j := i + 1) hb dL_law_1013 (nI_add i 1) (by omega) (by omega) ?_
  refine wl_callV (As := [.int (xs (i + 1))]) kL_131 dL_law_1014 kd_0 rfl ⟨Nat.le_of_ble_eq_true rfl, Nat.le_of_ble_eq_true rfl, Nat.le_of_ble_eq_true rfl⟩ rfl rfl (Nat.le_of_ble_eq_true rfl) (hA _ ?_)
  show WL (ZS b N xs) κ (12, 600000, 7302250) mL_law 1017 [some (.ref b), some (.ref (ka κ 0)), some (.ref (ka κ 120)), some (.int (nI i))] [.int v] (wM κ M1) (129, 1847) Q
  refine wl_aload_2 dL_law_1017 ?_
  refine wl_aload_0 dL_law_1018 ?_
  refine wl_iload_3 dL_law_1019 ?_
  refine wl_iconst (v := 1) dL_law_1020 rfl ?_
  refine wl_iadd dL_law_1021 ?_
  refine wl_sld (j := i + 1) hb dL_law_1022 (nI_add i 1) (by omega) (by omega) ?_
  refine wl_callV (As := [.int (xs (i + 1))]) kL_134 dL_law_1023 kd_120 rfl ⟨Nat.le_of_ble_eq_true rfl, Nat.le_of_ble_eq_true rfl, Nat.le_of_ble_eq_true rfl⟩ rfl rfl (Nat.le_of_ble_eq_true rfl) (hB _ ?_)
  show WL (ZS b N xs) κ (12, 600000, 7302250) mL_law 1026 [some (.ref b), some (.ref (ka κ 0)), some (.ref (ka κ 120)), some (.int (nI i))] [.int v, .int v] (wM κ M2) (129, 1847) Q
  refine wl_icmp_eq (tgt := 1177) dL_law_1026 rfl (fun _ => ?_) (fun q => absurd rfl q)
  exact hN M2 hR
set_option maxRecDepth 100000 in
set_option maxHeartbeats 4000000 in
theorem law_29 {κ : KX} {Q : Option Value → va_W → Prop} {b N i : Nat} {xs : Nat → Int32} {M : MM} (hb : b < kb κ) (h4 : N ≤ 448) (hi : i + 7 ≤ N) (hM : REL M) (hN : ∀ M, REL M → WL (ZS b N xs) κ (12, 600000, 7302250) mL_law 1177 [some (.ref b), some (.ref (ka κ 0)), some (.ref (ka κ 120)), some (.int (nI i))] [] (wM κ M) (129, 1847) Q) : WL (ZS b N xs) κ (12, 600000, 7302250) mL_law 1031 [some (.ref b), some (.ref (ka κ 0)), some (.ref (ka κ 120)), some (.int (nI i))] [] (wM κ M) (129, 1847) Q := by
  obtain ⟨M1, M2, v, hR, hA, hB⟩ := pr_item (κ := κ) (a := xs (i + 1)) (b := xs (i + 2)) (c := xs (i + 3)) (v := (((xs (i + 4)).toInt64 <<< (Int32.toInt64 32 &&& 63)) ||| ((xs (i + 5)).toInt64 &&& 4294967295))) hM
  refine wl_aload_1 dL_law_1031 ?_
  refine wl_aload_0 dL_law_1032 ?_
  refine wl_iload_3 dL_law_1033 ?_
  refine wl_iconst (v := 1) dL_law_1034 rfl ?_
  refine wl_iadd dL_law_1035 ?_
  refine wl_sld (j := i + 1) hb dL_law_1036 (nI_add i 1) (by omega) (by omega) ?_
  refine wl_aload_0 dL_law_1037 ?_
  refine wl_iload_3 dL_law_1038 ?_
  refine wl_iconst (v := 2) dL_law_1039 rfl ?_
  refine wl_iadd dL_law_1040 ?_
  refine wl_sld (j := i + 2) hb dL_law_1041 (nI_add i 2) (by omega) (by omega) ?_
  refine wl_aload_0 dL_law_1042 ?_
  refine wl_iload_3 dL_law_1043 ?_
  refine wl_iconst (v := 3) dL_law_1044 rfl ?_
  refine wl_iadd dL_law_1045 ?_
  refine wl_sld (j := i + 3) hb dL_law_1046 (nI_add i 3) (by omega) (by omega) ?_
  refine wl_aload_0 dL_law_1047 ?_
  refine wl_iload_3 dL_law_1048 ?_
  refine wl_iconst (v := 4) dL_law_1049 rfl ?_
  refine wl_iadd dL_law_1050 ?_
  refine wl_sld (j := i + 4) hb dL_law_1051 (nI_add i 4) (by omega) (by omega) ?_
  refine wl_i2l dL_law_1052 ?_
  refine wl_bipush (v := 32) dL_law_1053 rfl ?_
  refine wl_lshl dL_law_1055 ?_
  refine wl_aload_0 dL_law_1056 ?_
  refine wl_iload_3 dL_law_1057 ?_
  refine wl_iconst (v := 5) dL_law_1058 rfl ?_
  refine wl_iadd dL_law_1059 ?_
  refine wl_sld (j := i + 5) hb dL_law_1060 (nI_add i 5) (by omega) (by omega) ?_
  refine wl_i2l dL_law_1061 ?_
  refine wl_ldc2 nL_135 dL_law_1062 ?_
  refine wl_land dL_law_1065 ?_
  refine wl_lor dL_law_1066 ?_
  refine wl_callV (As := [.int (xs (i + 1)), .int (xs (i + 2)), .int (xs (i + 3)), .long ((((xs (i + 4)).toInt64 <<< (Int32.toInt64 32 &&& 63)) ||| ((xs (i + 5)).toInt64 &&& 4294967295)))]) kL_137 dL_law_1067 kd_0 rfl ⟨Nat.le_of_ble_eq_true rfl, Nat.le_of_ble_eq_true rfl, Nat.le_of_ble_eq_true rfl⟩ rfl rfl (Nat.le_of_ble_eq_true rfl) (hA _ ?_)
  show WL (ZS b N xs) κ (12, 600000, 7302250) mL_law 1070 [some (.ref b), some (.ref (ka κ 0)), some (.ref (ka κ 120)), some (.int (nI i))] [.int v] (wM κ M1) (129, 1847) Q
  refine wl_aload_2 dL_law_1070 ?_
  refine wl_aload_0 dL_law_1071 ?_
  refine wl_iload_3 dL_law_1072 ?_
  refine wl_iconst (v := 1) dL_law_1073 rfl ?_
  refine wl_iadd dL_law_1074 ?_
  refine wl_sld (j := i + 1) hb dL_law_1075 (nI_add i 1) (by omega) (by omega) ?_
  refine wl_aload_0 dL_law_1076 ?_
  refine wl_iload_3 dL_law_1077 ?_
  refine wl_iconst (v := 2) dL_law_1078 rfl ?_
  refine wl_iadd dL_law_1079 ?_
  refine wl_sld (j := i + 2) hb dL_law_1080 (nI_add i 2) (by omega) (by omega) ?_
  refine wl_aload_0 dL_law_1081 ?_
  refine wl_iload_3 dL_law_1082 ?_
  refine wl_iconst (v := 3) dL_law_1083 rfl ?_
  refine wl_iadd dL_law_1084 ?_
  refine wl_sld (j := i + 3) hb dL_law_1085 (nI_add i 3) (by omega) (by omega) ?_
  refine wl_aload_0 dL_law_1086 ?_
  refine wl_iload_3 dL_law_1087 ?_
  refine wl_iconst (v := 4) dL_law_1088 rfl ?_
  refine wl_iadd dL_law_1089 ?_
  refine wl_sld (j := i + 4) hb dL_law_1090 (nI_add i 4) (by omega) (by omega) ?_
  refine wl_i2l dL_law_1091 ?_
  refine wl_bipush (v := 32) dL_law_1092 rfl ?_
  refine wl_lshl dL_law_1094 ?_
  refine wl_aload_0 dL_law_1095 ?_
  refine wl_iload_3 dL_law_1096 ?_
  refine wl_iconst (v := 5) dL_law_1097 rfl ?_
  refine wl_iadd dL_law_1098 ?_
  refine wl_sld (j := i + 5) hb dL_law_1099 (nI_add i 5) (by omega) (by omega) ?_
  refine wl_i2l dL_law_1100 ?_
  refine wl_ldc2 nL_135 dL_law_1101 ?_
  refine wl_land dL_law_1104 ?_
  refine wl_lor dL_law_1105 ?_
  refine wl_callV (As := [.int (xs (i + 1)), .int (xs (i + 2)), .int (xs (i + 3)), .long ((((xs (i + 4)).toInt64 <<< (Int32.toInt64 32 &&& 63)) ||| ((xs (i + 5)).toInt64 &&& 4294967295)))]) kL_141 dL_law_1106 kd_120 rfl ⟨Nat.le_of_ble_eq_true rfl, Nat.le_of_ble_eq_true rfl, Nat.le_of_ble_eq_true rfl⟩ rfl rfl (Nat.le_of_ble_eq_true rfl) (hB _ ?_)
  show WL (ZS b N xs) κ (12, 600000, 7302250) mL_law 1109 [some (.ref b), some (.ref (ka κ 0)), some (.ref (ka κ 120)), some (.int (nI i))] [.int v, .int v] (wM κ M2) (129, 1847) Q
  refine wl_icmp_eq (tgt := 1177) dL_law_1109 rfl (fun _ => ?_) (fun q => absurd rfl q)
  exact hN M2 hR
set_option maxRecDepth 100000 in
set_option maxHeartbeats 4000000 in
theorem law_30 {κ : KX} {Q : Option Value → va_W → Prop} {b N i : Nat} {xs : Nat → Int32} {M : MM} (hb : b < kb κ) (h4 : N ≤ 448) (hi : i + 7 ≤ N) (hM : REL M) (hN : ∀ M, REL M → WL (ZS b N xs) κ (12, 600000, 7302250) mL_law 1177 [some (.ref b), some (.ref (ka κ 0)), some (.ref (ka κ 120)), some (.int (nI i))] [] (wM κ M) (129, 1847) Q) : WL (ZS b N xs) κ (12, 600000, 7302250) mL_law 1114 [some (.ref b), some (.ref (ka κ 0)), some (.ref (ka κ 120)), some (.int (nI i))] [] (wM κ M) (129, 1847) Q := by
  obtain ⟨M1, M2, v, hR, hA, hB⟩ := pr_copy (κ := κ) (a := xs (i + 1)) (b := xs (i + 2)) (c := xs (i + 3)) (d := xs (i + 4)) (e := xs (i + 5)) hM
  refine wl_aload_1 dL_law_1114 ?_
  refine wl_aload_0 dL_law_1115 ?_
  refine wl_iload_3 dL_law_1116 ?_
  refine wl_iconst (v := 1) dL_law_1117 rfl ?_
  refine wl_iadd dL_law_1118 ?_
  refine wl_sld (j := i + 1) hb dL_law_1119 (nI_add i 1) (by omega) (by omega) ?_
  refine wl_aload_0 dL_law_1120 ?_
  refine wl_iload_3 dL_law_1121 ?_
  refine wl_iconst (v := 2) dL_law_1122 rfl ?_
  refine wl_iadd dL_law_1123 ?_
  refine wl_sld (j := i + 2) hb dL_law_1124 (nI_add i 2) (by omega) (by omega) ?_
  refine wl_aload_0 dL_law_1125 ?_
  refine wl_iload_3 dL_law_1126 ?_
  refine wl_iconst (v := 3) dL_law_1127 rfl ?_
  refine wl_iadd dL_law_1128 ?_
  refine wl_sld (j := i + 3) hb dL_law_1129 (nI_add i 3) (by omega) (by omega) ?_
  refine wl_aload_0 dL_law_1130 ?_
  refine wl_iload_3 dL_law_1131 ?_
  refine wl_iconst (v := 4) dL_law_1132 rfl ?_
  refine wl_iadd dL_law_1133 ?_
  refine wl_sld (j := i + 4) hb dL_law_1134 (nI_add i 4) (by omega) (by omega) ?_
  refine wl_aload_0 dL_law_1135 ?_
  refine wl_iload_3 dL_law_1136 ?_
  refine wl_iconst (v := 5) dL_law_1137 rfl ?_
  refine wl_iadd dL_law_1138 ?_
  refine wl_sld (j := i + 5) hb dL_law_1139 (nI_add i 5) (by omega) (by omega) ?_
  refine wl_callV (As := [.int (xs (i + 1)), .int (xs (i + 2)), .int (xs (i + 3)), .int (xs (i + 4)), .int (xs (i + 5))]) kL_142 dL_law_1140 kd_0 rfl ⟨Nat.le_of_ble_eq_true rfl, Nat.le_of_ble_eq_true rfl, Nat.le_of_ble_eq_true rfl⟩ rfl rfl (Nat.le_of_ble_eq_true rfl) (hA _ ?_)
  show WL (ZS b N xs) κ (12, 600000, 7302250) mL_law 1143 [some (.ref b), some (.ref (ka κ 0)), some (.ref (ka κ 120)), some (.int (nI i))] [.int v] (wM κ M1) (129, 1847) Q
  refine wl_aload_2 dL_law_1143 ?_
  refine wl_aload_0 dL_law_1144 ?_
  refine wl_iload_3 dL_law_1145 ?_
  refine wl_iconst (v := 1) dL_law_1146 rfl ?_
  refine wl_iadd dL_law_1147 ?_
  refine wl_sld (j := i + 1) hb dL_law_1148 (nI_add i 1) (by omega) (by omega) ?_
  refine wl_aload_0 dL_law_1149 ?_
  refine wl_iload_3 dL_law_1150 ?_
  refine wl_iconst (v := 2) dL_law_1151 rfl ?_
  refine wl_iadd dL_law_1152 ?_
  refine wl_sld (j := i + 2) hb dL_law_1153 (nI_add i 2) (by omega) (by omega) ?_
  refine wl_aload_0 dL_law_1154 ?_
  refine wl_iload_3 dL_law_1155 ?_
  refine wl_iconst (v := 3) dL_law_1156 rfl ?_
  refine wl_iadd dL_law_1157 ?_
  refine wl_sld (j := i + 3) hb dL_law_1158 (nI_add i 3) (by omega) (by omega) ?_
  refine wl_aload_0 dL_law_1159 ?_
  refine wl_iload_3 dL_law_1160 ?_
  refine wl_iconst (v := 4) dL_law_1161 rfl ?_
  refine wl_iadd dL_law_1162 ?_
  refine wl_sld (j := i + 4) hb dL_law_1163 (nI_add i 4) (by omega) (by omega) ?_
  refine wl_aload_0 dL_law_1164 ?_
  refine wl_iload_3 dL_law_1165 ?_
  refine wl_iconst (v := 5) dL_law_1166 rfl ?_
  refine wl_iadd dL_law_1167 ?_
  refine wl_sld (j := i + 5) hb dL_law_1168 (nI_add i 5) (by omega) (by omega) ?_
  refine wl_callV (As := [.int (xs (i + 1)), .int (xs (i + 2)), .int (xs (i + 3)), .int (xs (i + 4)), .int (xs (i + 5))]) kL_145 dL_law_1169 kd_120 rfl ⟨Nat.le_of_ble_eq_true rfl, Nat.le_of_ble_eq_true rfl, Nat.le_of_ble_eq_true rfl⟩ rfl rfl (Nat.le_of_ble_eq_true rfl) (hB _ ?_)
  show WL (ZS b N xs) κ (12, 600000, 7302250) mL_law 1172 [some (.ref b), some (.ref (ka κ 0)), some (.ref (ka κ 120)), some (.int (nI i))] [.int v, .int v] (wM κ M2) (129, 1847) Q
  refine wl_icmp_eq (tgt := 1177) dL_law_1172 rfl (fun _ => ?_) (fun q => absurd rfl q)
  exact hN M2 hR
