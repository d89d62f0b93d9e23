/-! the sixteen calls out of the law; printed by wip/tools/m_law2.py -/
theorem stOK_Z : stOK stZ := ⟨fun x h0 h1 => stZ_st h0 h1, stZ_B, fun k h0 h1 => stZ_3 h0 h1⟩
/-- put's long, out of the script -/
def pvL (xs : Nat → Int32) (i : Nat) : Int64 := ((zI (sx xs (i + 2))).toInt64 <<< ((zI 32).toInt64 &&& 63)) ||| ((zI (sx xs (i + 3))).toInt64 &&& 4294967295)
theorem Good.df {E : EV} {f : Nat → va_E} (h : Good E stZ f) : ∃ fs, f 0 = ob 11 fs := by
  obtain ⟨bk, wi, ns, n1, n2, g0, c0, g1, c1, g2, c2, g3, c3, W, Fs, L, md, bl, ct, P, pm, pw, ps, F, b, sz, Wm, Am, Lm, mt, ms, ma, mn, hDf, _⟩ := h
  exact ⟨_, hDf.1⟩
section LCASES
variable {E : EV} {X : XT} {nm : String} {k n b L i : Nat} {xs : Nat → Int32} {f : Nat → va_E}
theorem lc_0 (hX : Ok E X "DeltaFerryLaw" nm code 4 (some .boolean) room_1) (hs : Scr X b L xs) (hi : i + 5 ≤ L) (hL : L ≤ 2560) (hkn : k ≤ 600000 ∧ n ≤ 7302250) (hG : Good E stZ f) (kk : ∀ f2, Good E stZ f2 → G E X k n 628 (lvL E b i) [] (wl E f2)) : G E X k n 112 (lvL E b i) [] (wl E f) := by
  obtain ⟨fs, h00⟩ := hG.df
  obtain ⟨x, Mid, hc1, hc2⟩ := P_put (E := E) (st := stZ) (sx xs (i + 1)) (sx xs (i + 4)) (pvL xs i) (sx_b xs _) (sx_b xs _) f hG
  refine G_aload_n hX 2 rfl rfl d_La_law_112 ?_
  refine L_arg hX hs (i := i) (j := 1) (by omega) hL d_La_law_113 d_La_law_114 d_La_law_115 d_La_law_116 d_La_law_117 ?_
  refine L_arg hX hs (i := i) (j := 2) (by omega) hL d_La_law_118 d_La_law_119 d_La_law_120 d_La_law_121 d_La_law_122 ?_
  refine G_i2l hX rfl d_La_law_123 ?_
  refine G_bipush hX (by decide) d_La_law_124 ?_
  refine G_lshl hX rfl d_La_law_126 ?_
  refine L_arg hX hs (i := i) (j := 3) (by omega) hL d_La_law_127 d_La_law_128 d_La_law_129 d_La_law_130 d_La_law_131 ?_
  refine G_i2l hX rfl d_La_law_132 ?_
  refine G_ldc2 hX kn_La_13 d_La_law_133 ?_
  refine G_land hX d_La_law_136 ?_
  refine G_lor hX d_La_law_137 ?_
  refine L_arg hX hs (i := i) (j := 4) (by omega) hL d_La_law_138 d_La_law_139 d_La_law_140 d_La_law_141 d_La_law_142 ?_
  refine L_call hX (st := []) hc1 cm_Df_put im_Df_put se_Df_put rfl ml_La_15 d_La_law_143 (by decide) h00 rfl rfl (Nat.le_of_ble_eq_true rfl) ⟨by decide, by decide⟩ hkn ?_
  rintro r9 f1 ⟨rfl, hm⟩
  obtain ⟨⟨F, h61⟩, hc3⟩ := hc2 f1 hm
  refine G_aload_n hX 1 rfl rfl d_La_law_146 ?_
  refine L_arg hX hs (i := i) (j := 1) (by omega) hL d_La_law_147 d_La_law_148 d_La_law_149 d_La_law_150 d_La_law_151 ?_
  refine L_arg hX hs (i := i) (j := 2) (by omega) hL d_La_law_152 d_La_law_153 d_La_law_154 d_La_law_155 d_La_law_156 ?_
  refine G_i2l hX rfl d_La_law_157 ?_
  refine G_bipush hX (by decide) d_La_law_158 ?_
  refine G_lshl hX rfl d_La_law_160 ?_
  refine L_arg hX hs (i := i) (j := 3) (by omega) hL d_La_law_161 d_La_law_162 d_La_law_163 d_La_law_164 d_La_law_165 ?_
  refine G_i2l hX rfl d_La_law_166 ?_
  refine G_ldc2 hX kn_La_13 d_La_law_167 ?_
  refine G_land hX d_La_law_170 ?_
  refine G_lor hX d_La_law_171 ?_
  refine L_arg hX hs (i := i) (j := 4) (by omega) hL d_La_law_172 d_La_law_173 d_La_law_174 d_La_law_175 d_La_law_176 ?_
  refine L_call hX (st := [.int x]) hc3 cm_Mo_put im_Mo_put se_Mo_put rfl ml_La_19 d_La_law_177 (by decide) h61 rfl rfl (Nat.le_of_ble_eq_true rfl) ⟨by decide, by decide⟩ hkn ?_
  rintro r9 f2 ⟨rfl, hg⟩
  exact G_icmp_eq hX d_La_law_180 rfl (fun _ => kk f2 hg) (fun h9 => absurd rfl h9)
theorem lc_1 (hX : Ok E X "DeltaFerryLaw" nm code 4 (some .boolean) room_1) (hs : Scr X b L xs) (hi : i + 5 ≤ L) (hL : L ≤ 2560) (hkn : k ≤ 600000 ∧ n ≤ 7302250) (hG : Good E stZ f) (kk : ∀ f2, Good E stZ f2 → G E X k n 628 (lvL E b i) [] (wl E f2)) : G E X k n 185 (lvL E b i) [] (wl E f) := by
  obtain ⟨fs, h00⟩ := hG.df
  obtain ⟨x, Mid, hc1, hc2⟩ := P_set (E := E) (st := stZ) (sx xs (i + 1)) (sx xs (i + 2)) (sx xs (i + 3)) (sx_b xs _) (sx_b xs _) f hG
  refine G_aload_n hX 2 rfl rfl d_La_law_185 ?_
  refine L_arg hX hs (i := i) (j := 1) (by omega) hL d_La_law_186 d_La_law_187 d_La_law_188 d_La_law_189 d_La_law_190 ?_
  refine L_arg hX hs (i := i) (j := 2) (by omega) hL d_La_law_191 d_La_law_192 d_La_law_193 d_La_law_194 d_La_law_195 ?_
  refine L_arg hX hs (i := i) (j := 3) (by omega) hL d_La_law_196 d_La_law_197 d_La_law_198 d_La_law_199 d_La_law_200 ?_
  refine L_call hX (st := []) hc1 cm_Df_set im_Df_set se_Df_set rfl ml_La_20 d_La_law_201 (by decide) h00 rfl rfl (Nat.le_of_ble_eq_true rfl) ⟨by decide, by decide⟩ hkn ?_
  rintro r9 f1 ⟨rfl, hm⟩
  obtain ⟨⟨F, h61⟩, hc3⟩ := hc2 f1 hm
  refine G_aload_n hX 1 rfl rfl d_La_law_204 ?_
  refine L_arg hX hs (i := i) (j := 1) (by omega) hL d_La_law_205 d_La_law_206 d_La_law_207 d_La_law_208 d_La_law_209 ?_
  refine L_arg hX hs (i := i) (j := 2) (by omega) hL d_La_law_210 d_La_law_211 d_La_law_212 d_La_law_213 d_La_law_214 ?_
  refine L_arg hX hs (i := i) (j := 3) (by omega) hL d_La_law_215 d_La_law_216 d_La_law_217 d_La_law_218 d_La_law_219 ?_
  refine L_call hX (st := [.int x]) hc3 cm_Mo_set im_Mo_set se_Mo_set rfl ml_La_24 d_La_law_220 (by decide) h61 rfl rfl (Nat.le_of_ble_eq_true rfl) ⟨by decide, by decide⟩ hkn ?_
  rintro r9 f2 ⟨rfl, hg⟩
  exact G_icmp_eq hX d_La_law_223 rfl (fun _ => kk f2 hg) (fun h9 => absurd rfl h9)
theorem lc_2 (hX : Ok E X "DeltaFerryLaw" nm code 4 (some .boolean) room_1) (hs : Scr X b L xs) (hi : i + 5 ≤ L) (hL : L ≤ 2560) (hkn : k ≤ 600000 ∧ n ≤ 7302250) (hG : Good E stZ f) (kk : ∀ f2, Good E stZ f2 → G E X k n 628 (lvL E b i) [] (wl E f2)) : G E X k n 228 (lvL E b i) [] (wl E f) := by
  obtain ⟨fs, h00⟩ := hG.df
  obtain ⟨x, Mid, hc1, hc2⟩ := P_copy (E := E) (st := stZ) (sx xs (i + 1)) (sx xs (i + 2)) (sx_b xs _) (sx_b xs _) f hG
  refine G_aload_n hX 2 rfl rfl d_La_law_228 ?_
  refine L_arg hX hs (i := i) (j := 1) (by omega) hL d_La_law_229 d_La_law_230 d_La_law_231 d_La_law_232 d_La_law_233 ?_
  refine L_arg hX hs (i := i) (j := 2) (by omega) hL d_La_law_234 d_La_law_235 d_La_law_236 d_La_law_237 d_La_law_238 ?_
  refine L_call hX (st := []) hc1 cm_Df_copy im_Df_copy se_Df_copy rfl ml_La_25 d_La_law_239 (by decide) h00 rfl rfl (Nat.le_of_ble_eq_true rfl) ⟨by decide, by decide⟩ hkn ?_
  rintro r9 f1 ⟨rfl, hm⟩
  obtain ⟨⟨F, h61⟩, hc3⟩ := hc2 f1 hm
  refine G_aload_n hX 1 rfl rfl d_La_law_242 ?_
  refine L_arg hX hs (i := i) (j := 1) (by omega) hL d_La_law_243 d_La_law_244 d_La_law_245 d_La_law_246 d_La_law_247 ?_
  refine L_arg hX hs (i := i) (j := 2) (by omega) hL d_La_law_248 d_La_law_249 d_La_law_250 d_La_law_251 d_La_law_252 ?_
  refine L_call hX (st := [.int x]) hc3 cm_Mo_copy im_Mo_copy se_Mo_copy rfl ml_La_29 d_La_law_253 (by decide) h61 rfl rfl (Nat.le_of_ble_eq_true rfl) ⟨by decide, by decide⟩ hkn ?_
  rintro r9 f2 ⟨rfl, hg⟩
  exact G_icmp_eq hX d_La_law_256 rfl (fun _ => kk f2 hg) (fun h9 => absurd rfl h9)
theorem lc_3 (hX : Ok E X "DeltaFerryLaw" nm code 4 (some .boolean) room_1) (hs : Scr X b L xs) (hi : i + 5 ≤ L) (hL : L ≤ 2560) (hkn : k ≤ 600000 ∧ n ≤ 7302250) (hG : Good E stZ f) (kk : ∀ f2, Good E stZ f2 → G E X k n 628 (lvL E b i) [] (wl E f2)) : G E X k n 261 (lvL E b i) [] (wl E f) := by
  obtain ⟨fs, h00⟩ := hG.df
  obtain ⟨x, Mid, hc1, hc2⟩ := P_clear (E := E) (st := stZ) (sx xs (i + 1)) (sx_b xs _) f hG
  refine G_aload_n hX 2 rfl rfl d_La_law_261 ?_
  refine L_arg hX hs (i := i) (j := 1) (by omega) hL d_La_law_262 d_La_law_263 d_La_law_264 d_La_law_265 d_La_law_266 ?_
  refine L_call hX (st := []) hc1 cm_Df_clear im_Df_clear se_Df_clear rfl ml_La_30 d_La_law_267 (by decide) h00 rfl rfl (Nat.le_of_ble_eq_true rfl) ⟨by decide, by decide⟩ hkn ?_
  rintro r9 f1 ⟨rfl, hm⟩
  obtain ⟨⟨F, h61⟩, hc3⟩ := hc2 f1 hm
  refine G_aload_n hX 1 rfl rfl d_La_law_270 ?_
  refine L_arg hX hs (i := i) (j := 1) (by omega) hL d_La_law_271 d_La_law_272 d_La_law_273 d_La_law_274 d_La_law_275 ?_
  refine L_call hX (st := [.int x]) hc3 cm_Mo_clear im_Mo_clear se_Mo_clear rfl ml_La_34 d_La_law_276 (by decide) h61 rfl rfl (Nat.le_of_ble_eq_true rfl) ⟨by decide, by decide⟩ hkn ?_
  rintro r9 f2 ⟨rfl, hg⟩
  exact G_icmp_eq hX d_La_law_279 rfl (fun _ => kk f2 hg) (fun h9 => absurd rfl h9)
theorem lc_4 (hX : Ok E X "DeltaFerryLaw" nm code 4 (some .boolean) room_1) (hs : Scr X b L xs) (hi : i + 5 ≤ L) (hL : L ≤ 2560) (hkn : k ≤ 600000 ∧ n ≤ 7302250) (hG : Good E stZ f) (kk : ∀ f2, Good E stZ f2 → G E X k n 628 (lvL E b i) [] (wl E f2)) : G E X k n 284 (lvL E b i) [] (wl E f) := by
  obtain ⟨fs, h00⟩ := hG.df
  obtain ⟨x, Mid, hc1, hc2⟩ := P_size (E := E) (st := stZ) (sx xs (i + 1)) (sx_b xs _) f hG
  refine G_aload_n hX 2 rfl rfl d_La_law_284 ?_
  refine L_arg hX hs (i := i) (j := 1) (by omega) hL d_La_law_285 d_La_law_286 d_La_law_287 d_La_law_288 d_La_law_289 ?_
  refine L_call hX (st := []) hc1 cm_Df_size im_Df_size se_Df_size rfl ml_La_35 d_La_law_290 (by decide) h00 rfl rfl (Nat.le_of_ble_eq_true rfl) ⟨by decide, by decide⟩ hkn ?_
  rintro r9 f1 ⟨rfl, hm⟩
  obtain ⟨⟨F, h61⟩, hc3⟩ := hc2 f1 hm
  refine G_aload_n hX 1 rfl rfl d_La_law_293 ?_
  refine L_arg hX hs (i := i) (j := 1) (by omega) hL d_La_law_294 d_La_law_295 d_La_law_296 d_La_law_297 d_La_law_298 ?_
  refine L_call hX (st := [.int x]) hc3 cm_Mo_size im_Mo_size se_Mo_size rfl ml_La_38 d_La_law_299 (by decide) h61 rfl rfl (Nat.le_of_ble_eq_true rfl) ⟨by decide, by decide⟩ hkn ?_
  rintro r9 f2 ⟨rfl, hg⟩
  exact G_icmp_eq hX d_La_law_302 rfl (fun _ => kk f2 hg) (fun h9 => absurd rfl h9)
theorem lc_5 (hX : Ok E X "DeltaFerryLaw" nm code 4 (some .boolean) room_1) (hs : Scr X b L xs) (hi : i + 5 ≤ L) (hL : L ≤ 2560) (hkn : k ≤ 600000 ∧ n ≤ 7302250) (hG : Good E stZ f) (kk : ∀ f2, Good E stZ f2 → G E X k n 628 (lvL E b i) [] (wl E f2)) : G E X k n 307 (lvL E b i) [] (wl E f) := by
  obtain ⟨fs, h00⟩ := hG.df
  obtain ⟨x, Mid, hc1, hc2⟩ := P_at (E := E) (st := stZ) (sx xs (i + 1)) (sx xs (i + 2)) (sx_b xs _) (sx_b xs _) f hG
  refine G_aload_n hX 2 rfl rfl d_La_law_307 ?_
  refine L_arg hX hs (i := i) (j := 1) (by omega) hL d_La_law_308 d_La_law_309 d_La_law_310 d_La_law_311 d_La_law_312 ?_
  refine L_arg hX hs (i := i) (j := 2) (by omega) hL d_La_law_313 d_La_law_314 d_La_law_315 d_La_law_316 d_La_law_317 ?_
  refine L_call hX (st := []) hc1 cm_Df_at im_Df_at se_Df_at rfl ml_La_39 d_La_law_318 (by decide) h00 rfl rfl (Nat.le_of_ble_eq_true rfl) ⟨by decide, by decide⟩ hkn ?_
  rintro r9 f1 ⟨rfl, hm⟩
  obtain ⟨⟨F, h61⟩, hc3⟩ := hc2 f1 hm
  refine G_aload_n hX 1 rfl rfl d_La_law_321 ?_
  refine L_arg hX hs (i := i) (j := 1) (by omega) hL d_La_law_322 d_La_law_323 d_La_law_324 d_La_law_325 d_La_law_326 ?_
  refine L_arg hX hs (i := i) (j := 2) (by omega) hL d_La_law_327 d_La_law_328 d_La_law_329 d_La_law_330 d_La_law_331 ?_
  refine L_call hX (st := [.int x]) hc3 cm_Mo_at im_Mo_at se_Mo_at rfl ml_La_43 d_La_law_332 (by decide) h61 rfl rfl (Nat.le_of_ble_eq_true rfl) ⟨by decide, by decide⟩ hkn ?_
  rintro r9 f2 ⟨rfl, hg⟩
  exact G_icmp_eq hX d_La_law_335 rfl (fun _ => kk f2 hg) (fun h9 => absurd rfl h9)
theorem lc_6 (hX : Ok E X "DeltaFerryLaw" nm code 4 (some .boolean) room_1) (hs : Scr X b L xs) (hi : i + 5 ≤ L) (hL : L ≤ 2560) (hkn : k ≤ 600000 ∧ n ≤ 7302250) (hG : Good E stZ f) (kk : ∀ f2, Good E stZ f2 → G E X k n 628 (lvL E b i) [] (wl E f2)) : G E X k n 340 (lvL E b i) [] (wl E f) := by
  obtain ⟨fs, h00⟩ := hG.df
  obtain ⟨x, Mid, hc1, hc2⟩ := P_digest (E := E) (st := stZ) (sx xs (i + 1)) (sx xs (i + 2)) (sx_b xs _) (sx_b xs _) f hG
  refine G_aload_n hX 2 rfl rfl d_La_law_340 ?_
  refine L_arg hX hs (i := i) (j := 1) (by omega) hL d_La_law_341 d_La_law_342 d_La_law_343 d_La_law_344 d_La_law_345 ?_
  refine L_arg hX hs (i := i) (j := 2) (by omega) hL d_La_law_346 d_La_law_347 d_La_law_348 d_La_law_349 d_La_law_350 ?_
  refine L_call hX (st := []) hc1 cm_Df_digest im_Df_digest se_Df_digest rfl ml_La_44 d_La_law_351 (by decide) h00 rfl rfl (Nat.le_of_ble_eq_true rfl) ⟨by decide, by decide⟩ hkn ?_
  rintro r9 f1 ⟨rfl, hm⟩
  obtain ⟨⟨F, h61⟩, hc3⟩ := hc2 f1 hm
  refine G_aload_n hX 1 rfl rfl d_La_law_354 ?_
  refine L_arg hX hs (i := i) (j := 1) (by omega) hL d_La_law_355 d_La_law_356 d_La_law_357 d_La_law_358 d_La_law_359 ?_
  refine L_arg hX hs (i := i) (j := 2) (by omega) hL d_La_law_360 d_La_law_361 d_La_law_362 d_La_law_363 d_La_law_364 ?_
  refine L_call hX (st := [.long x]) hc3 cm_Mo_digest im_Mo_digest se_Mo_digest rfl ml_La_48 d_La_law_365 (by decide) h61 rfl rfl (Nat.le_of_ble_eq_true rfl) ⟨by decide, by decide⟩ hkn ?_
  rintro r9 f2 ⟨rfl, hg⟩
  refine G_lcmp hX d_La_law_368 ?_
  exact G_if_eq hX d_La_law_369 rfl (fun _ => kk f2 hg) (fun h9 => absurd (lg_self x) h9)
theorem lc_7 (hX : Ok E X "DeltaFerryLaw" nm code 4 (some .boolean) room_1) (hs : Scr X b L xs) (hi : i + 5 ≤ L) (hL : L ≤ 2560) (hkn : k ≤ 600000 ∧ n ≤ 7302250) (hG : Good E stZ f) (kk : ∀ f2, Good E stZ f2 → G E X k n 628 (lvL E b i) [] (wl E f2)) : G E X k n 374 (lvL E b i) [] (wl E f) := by
  obtain ⟨fs, h00⟩ := hG.df
  obtain ⟨x, Mid, hc1, hc2⟩ := P_sum (E := E) (st := stZ) (sx xs (i + 1)) (sx xs (i + 2)) (sx xs (i + 3)) (sx_b xs _) (sx_b xs _) (sx_b xs _) f hG
  refine G_aload_n hX 2 rfl rfl d_La_law_374 ?_
  refine L_arg hX hs (i := i) (j := 1) (by omega) hL d_La_law_375 d_La_law_376 d_La_law_377 d_La_law_378 d_La_law_379 ?_
  refine L_arg hX hs (i := i) (j := 2) (by omega) hL d_La_law_380 d_La_law_381 d_La_law_382 d_La_law_383 d_La_law_384 ?_
  refine L_arg hX hs (i := i) (j := 3) (by omega) hL d_La_law_385 d_La_law_386 d_La_law_387 d_La_law_388 d_La_law_389 ?_
  refine L_call hX (st := []) hc1 cm_Df_sum im_Df_sum se_Df_sum rfl ml_La_49 d_La_law_390 (by decide) h00 rfl rfl (Nat.le_of_ble_eq_true rfl) ⟨by decide, by decide⟩ hkn ?_
  rintro r9 f1 ⟨rfl, hm⟩
  obtain ⟨⟨F, h61⟩, hc3⟩ := hc2 f1 hm
  refine G_aload_n hX 1 rfl rfl d_La_law_393 ?_
  refine L_arg hX hs (i := i) (j := 1) (by omega) hL d_La_law_394 d_La_law_395 d_La_law_396 d_La_law_397 d_La_law_398 ?_
  refine L_arg hX hs (i := i) (j := 2) (by omega) hL d_La_law_399 d_La_law_400 d_La_law_401 d_La_law_402 d_La_law_403 ?_
  refine L_arg hX hs (i := i) (j := 3) (by omega) hL d_La_law_404 d_La_law_405 d_La_law_406 d_La_law_407 d_La_law_408 ?_
  refine L_call hX (st := [.long x]) hc3 cm_Mo_sum im_Mo_sum se_Mo_sum rfl ml_La_53 d_La_law_409 (by decide) h61 rfl rfl (Nat.le_of_ble_eq_true rfl) ⟨by decide, by decide⟩ hkn ?_
  rintro r9 f2 ⟨rfl, hg⟩
  refine G_lcmp hX d_La_law_412 ?_
  exact G_if_eq hX d_La_law_413 rfl (fun _ => kk f2 hg) (fun h9 => absurd (lg_self x) h9)
theorem lc_8 (hX : Ok E X "DeltaFerryLaw" nm code 4 (some .boolean) room_1) (hs : Scr X b L xs) (hi : i + 5 ≤ L) (hL : L ≤ 2560) (hkn : k ≤ 600000 ∧ n ≤ 7302250) (hG : Good E stZ f) (kk : ∀ f2, Good E stZ f2 → G E X k n 628 (lvL E b i) [] (wl E f2)) : G E X k n 418 (lvL E b i) [] (wl E f) := by
  obtain ⟨fs, h00⟩ := hG.df
  obtain ⟨x, Mid, hc1, hc2⟩ := P_sign (E := E) (st := stZ) (sx xs (i + 1)) (sx_b xs _) f hG
  refine G_aload_n hX 2 rfl rfl d_La_law_418 ?_
  refine L_arg hX hs (i := i) (j := 1) (by omega) hL d_La_law_419 d_La_law_420 d_La_law_421 d_La_law_422 d_La_law_423 ?_
  refine L_call hX (st := []) hc1 cm_Df_sign im_Df_sign se_Df_sign rfl ml_La_54 d_La_law_424 (by decide) h00 rfl rfl (Nat.le_of_ble_eq_true rfl) ⟨by decide, by decide⟩ hkn ?_
  rintro r9 f1 ⟨rfl, hm⟩
  obtain ⟨⟨F, h61⟩, hc3⟩ := hc2 f1 hm
  refine G_aload_n hX 1 rfl rfl d_La_law_427 ?_
  refine L_arg hX hs (i := i) (j := 1) (by omega) hL d_La_law_428 d_La_law_429 d_La_law_430 d_La_law_431 d_La_law_432 ?_
  refine L_call hX (st := [.int x]) hc3 cm_Mo_sign im_Mo_sign se_Mo_sign rfl ml_La_57 d_La_law_433 (by decide) h61 rfl rfl (Nat.le_of_ble_eq_true rfl) ⟨by decide, by decide⟩ hkn ?_
  rintro r9 f2 ⟨rfl, hg⟩
  exact G_icmp_eq hX d_La_law_436 rfl (fun _ => kk f2 hg) (fun h9 => absurd rfl h9)
theorem lc_9 (hX : Ok E X "DeltaFerryLaw" nm code 4 (some .boolean) room_1) (hs : Scr X b L xs) (hi : i + 5 ≤ L) (hL : L ≤ 2560) (hkn : k ≤ 600000 ∧ n ≤ 7302250) (hG : Good E stZ f) (kk : ∀ f2, Good E stZ f2 → G E X k n 628 (lvL E b i) [] (wl E f2)) : G E X k n 441 (lvL E b i) [] (wl E f) := by
  obtain ⟨fs, h00⟩ := hG.df
  obtain ⟨x, Mid, hc1, hc2⟩ := P_scan (E := E) (st := stZ) (sx xs (i + 1)) (sx_b xs _) f hG
  refine G_aload_n hX 2 rfl rfl d_La_law_441 ?_
  refine L_arg hX hs (i := i) (j := 1) (by omega) hL d_La_law_442 d_La_law_443 d_La_law_444 d_La_law_445 d_La_law_446 ?_
  refine L_call hX (st := []) hc1 cm_Df_scan im_Df_scan se_Df_scan rfl ml_La_58 d_La_law_447 (by decide) h00 rfl rfl (Nat.le_of_ble_eq_true rfl) ⟨by decide, by decide⟩ hkn ?_
  rintro r9 f1 ⟨rfl, hm⟩
  obtain ⟨⟨F, h61⟩, hc3⟩ := hc2 f1 hm
  refine G_aload_n hX 1 rfl rfl d_La_law_450 ?_
  refine L_arg hX hs (i := i) (j := 1) (by omega) hL d_La_law_451 d_La_law_452 d_La_law_453 d_La_law_454 d_La_law_455 ?_
  refine L_call hX (st := [.int x]) hc3 cm_Mo_scan im_Mo_scan se_Mo_scan rfl ml_La_61 d_La_law_456 (by decide) h61 rfl rfl (Nat.le_of_ble_eq_true rfl) ⟨by decide, by decide⟩ hkn ?_
  rintro r9 f2 ⟨rfl, hg⟩
  exact G_icmp_eq hX d_La_law_459 rfl (fun _ => kk f2 hg) (fun h9 => absurd rfl h9)
theorem lc_10 (hX : Ok E X "DeltaFerryLaw" nm code 4 (some .boolean) room_1) (hs : Scr X b L xs) (hi : i + 5 ≤ L) (hL : L ≤ 2560) (hkn : k ≤ 600000 ∧ n ≤ 7302250) (hG : Good E stZ f) (kk : ∀ f2, Good E stZ f2 → G E X k n 628 (lvL E b i) [] (wl E f2)) : G E X k n 464 (lvL E b i) [] (wl E f) := by
  obtain ⟨fs, h00⟩ := hG.df
  obtain ⟨x, Mid, hc1, hc2⟩ := P_differ (E := E) (st := stZ) (sx xs (i + 1)) (sx xs (i + 2)) (sx_b xs _) (sx_b xs _) f hG
  refine G_aload_n hX 2 rfl rfl d_La_law_464 ?_
  refine L_arg hX hs (i := i) (j := 1) (by omega) hL d_La_law_465 d_La_law_466 d_La_law_467 d_La_law_468 d_La_law_469 ?_
  refine L_arg hX hs (i := i) (j := 2) (by omega) hL d_La_law_470 d_La_law_471 d_La_law_472 d_La_law_473 d_La_law_474 ?_
  refine L_call hX (st := []) hc1 cm_Df_differ im_Df_differ se_Df_differ rfl ml_La_62 d_La_law_475 (by decide) h00 rfl rfl (Nat.le_of_ble_eq_true rfl) ⟨by decide, by decide⟩ hkn ?_
  rintro r9 f1 ⟨rfl, hm⟩
  obtain ⟨⟨F, h61⟩, hc3⟩ := hc2 f1 hm
  refine G_aload_n hX 1 rfl rfl d_La_law_478 ?_
  refine L_arg hX hs (i := i) (j := 1) (by omega) hL d_La_law_479 d_La_law_480 d_La_law_481 d_La_law_482 d_La_law_483 ?_
  refine L_arg hX hs (i := i) (j := 2) (by omega) hL d_La_law_484 d_La_law_485 d_La_law_486 d_La_law_487 d_La_law_488 ?_
  refine L_call hX (st := [.int x]) hc3 cm_Mo_differ im_Mo_differ se_Mo_differ rfl ml_La_65 d_La_law_489 (by decide) h61 rfl rfl (Nat.le_of_ble_eq_true rfl) ⟨by decide, by decide⟩ hkn ?_
  rintro r9 f2 ⟨rfl, hg⟩
  exact G_icmp_eq hX d_La_law_492 rfl (fun _ => kk f2 hg) (fun h9 => absurd rfl h9)
theorem lc_11 (hX : Ok E X "DeltaFerryLaw" nm code 4 (some .boolean) room_1) (hs : Scr X b L xs) (hi : i + 5 ≤ L) (hL : L ≤ 2560) (hkn : k ≤ 600000 ∧ n ≤ 7302250) (hG : Good E stZ f) (kk : ∀ f2, Good E stZ f2 → G E X k n 628 (lvL E b i) [] (wl E f2)) : G E X k n 497 (lvL E b i) [] (wl E f) := by
  obtain ⟨fs, h00⟩ := hG.df
  obtain ⟨x, Mid, hc1, hc2⟩ := P_instruction (E := E) (st := stZ) (sx xs (i + 1)) (sx xs (i + 2)) (sx_b xs _) (sx_b xs _) f hG
  refine G_aload_n hX 2 rfl rfl d_La_law_497 ?_
  refine L_arg hX hs (i := i) (j := 1) (by omega) hL d_La_law_498 d_La_law_499 d_La_law_500 d_La_law_501 d_La_law_502 ?_
  refine L_arg hX hs (i := i) (j := 2) (by omega) hL d_La_law_503 d_La_law_504 d_La_law_505 d_La_law_506 d_La_law_507 ?_
  refine L_call hX (st := []) hc1 cm_Df_instruction im_Df_instruction se_Df_instruction rfl ml_La_66 d_La_law_508 (by decide) h00 rfl rfl (Nat.le_of_ble_eq_true rfl) ⟨by decide, by decide⟩ hkn ?_
  rintro r9 f1 ⟨rfl, hm⟩
  obtain ⟨⟨F, h61⟩, hc3⟩ := hc2 f1 hm
  refine G_aload_n hX 1 rfl rfl d_La_law_511 ?_
  refine L_arg hX hs (i := i) (j := 1) (by omega) hL d_La_law_512 d_La_law_513 d_La_law_514 d_La_law_515 d_La_law_516 ?_
  refine L_arg hX hs (i := i) (j := 2) (by omega) hL d_La_law_517 d_La_law_518 d_La_law_519 d_La_law_520 d_La_law_521 ?_
  refine L_call hX (st := [.int x]) hc3 cm_Mo_instruction im_Mo_instruction se_Mo_instruction rfl ml_La_69 d_La_law_522 (by decide) h61 rfl rfl (Nat.le_of_ble_eq_true rfl) ⟨by decide, by decide⟩ hkn ?_
  rintro r9 f2 ⟨rfl, hg⟩
  exact G_icmp_eq hX d_La_law_525 rfl (fun _ => kk f2 hg) (fun h9 => absurd rfl h9)
theorem lc_12 (hX : Ok E X "DeltaFerryLaw" nm code 4 (some .boolean) room_1) (hs : Scr X b L xs) (hi : i + 5 ≤ L) (hL : L ≤ 2560) (hkn : k ≤ 600000 ∧ n ≤ 7302250) (hG : Good E stZ f) (kk : ∀ f2, Good E stZ f2 → G E X k n 628 (lvL E b i) [] (wl E f2)) : G E X k n 530 (lvL E b i) [] (wl E f) := by
  obtain ⟨fs, h00⟩ := hG.df
  by_cases h0 : sx xs (i + 1) = 0
  · obtain ⟨x, Mid, hc1, hc2⟩ := P_encode0 (E := E) (st := stZ) f hG
    refine G_aload_n hX 2 rfl rfl d_La_law_530 ?_
    refine L_arg hX hs (i := i) (j := 1) (by omega) hL d_La_law_531 d_La_law_532 d_La_law_533 d_La_law_534 d_La_law_535 ?_
    refine G_if_eq_z hX d_La_law_536 rfl (sx_b xs _) (fun _ => ?_) (fun h9 => absurd h0 h9)
    refine G_iconst hX d_La_law_543 ?_
    refine L_call hX (st := []) hc1 cm_Df_encode im_Df_encode se_Df_encode rfl ml_La_70 d_La_law_544 (by decide) h00 rfl rfl (Nat.le_of_ble_eq_true rfl) ⟨by decide, by decide⟩ hkn ?_
    rintro r9 f1 ⟨rfl, hm⟩
    obtain ⟨⟨F, h61⟩, hc3⟩ := hc2 f1 hm
    refine G_aload_n hX 1 rfl rfl d_La_law_547 ?_
    refine L_arg hX hs (i := i) (j := 1) (by omega) hL d_La_law_548 d_La_law_549 d_La_law_550 d_La_law_551 d_La_law_552 ?_
    refine G_if_eq_z hX d_La_law_553 rfl (sx_b xs _) (fun _ => ?_) (fun h9 => absurd h0 h9)
    refine G_iconst hX d_La_law_560 ?_
    refine L_call hX (st := [.int x]) hc3 cm_Mo_encode im_Mo_encode se_Mo_encode rfl ml_La_74 d_La_law_561 (by decide) h61 rfl rfl (Nat.le_of_ble_eq_true rfl) ⟨by decide, by decide⟩ hkn ?_
    rintro r9 f2 ⟨rfl, hg⟩
    exact G_icmp_eq hX d_La_law_564 rfl (fun _ => kk f2 hg) (fun h9 => absurd rfl h9)
  · obtain ⟨x, Mid, hc1, hc2⟩ := P_encode1 (E := E) (st := stZ) f hG
    refine G_aload_n hX 2 rfl rfl d_La_law_530 ?_
    refine L_arg hX hs (i := i) (j := 1) (by omega) hL d_La_law_531 d_La_law_532 d_La_law_533 d_La_law_534 d_La_law_535 ?_
    refine G_if_eq_z hX d_La_law_536 rfl (sx_b xs _) (fun h9 => absurd h9 h0) (fun _ => ?_)
    refine G_iconst hX d_La_law_539 ?_
    refine G_goto hX d_La_law_540 rfl ?_
    refine L_call hX (st := []) hc1 cm_Df_encode im_Df_encode se_Df_encode rfl ml_La_70 d_La_law_544 (by decide) h00 rfl rfl (Nat.le_of_ble_eq_true rfl) ⟨by decide, by decide⟩ hkn ?_
    rintro r9 f1 ⟨rfl, hm⟩
    obtain ⟨⟨F, h61⟩, hc3⟩ := hc2 f1 hm
    refine G_aload_n hX 1 rfl rfl d_La_law_547 ?_
    refine L_arg hX hs (i := i) (j := 1) (by omega) hL d_La_law_548 d_La_law_549 d_La_law_550 d_La_law_551 d_La_law_552 ?_
    refine G_if_eq_z hX d_La_law_553 rfl (sx_b xs _) (fun h9 => absurd h9 h0) (fun _ => ?_)
    refine G_iconst hX d_La_law_556 ?_
    refine G_goto hX d_La_law_557 rfl ?_
    refine L_call hX (st := [.int x]) hc3 cm_Mo_encode im_Mo_encode se_Mo_encode rfl ml_La_74 d_La_law_561 (by decide) h61 rfl rfl (Nat.le_of_ble_eq_true rfl) ⟨by decide, by decide⟩ hkn ?_
    rintro r9 f2 ⟨rfl, hg⟩
    exact G_icmp_eq hX d_La_law_564 rfl (fun _ => kk f2 hg) (fun h9 => absurd rfl h9)
theorem lc_13 (hX : Ok E X "DeltaFerryLaw" nm code 4 (some .boolean) room_1) (hs : Scr X b L xs) (hi : i + 5 ≤ L) (hL : L ≤ 2560) (hkn : k ≤ 600000 ∧ n ≤ 7302250) (hG : Good E stZ f) (kk : ∀ f2, Good E stZ f2 → G E X k n 628 (lvL E b i) [] (wl E f2)) : G E X k n 569 (lvL E b i) [] (wl E f) := by
  obtain ⟨fs, h00⟩ := hG.df
  obtain ⟨x, Mid, hc1, hc2⟩ := P_decode (E := E) (st := stZ) stOK_Z f hG
  refine G_aload_n hX 2 rfl rfl d_La_law_569 ?_
  refine L_call hX (st := []) hc1 cm_Df_decode im_Df_decode se_Df_decode rfl ml_La_75 d_La_law_570 (by decide) h00 rfl rfl (Nat.le_of_ble_eq_true rfl) ⟨by decide, by decide⟩ hkn ?_
  rintro r9 f1 ⟨rfl, hm⟩
  obtain ⟨⟨F, h61⟩, hc3⟩ := hc2 f1 hm
  refine G_aload_n hX 1 rfl rfl d_La_law_573 ?_
  refine L_call hX (st := [.int x]) hc3 cm_Mo_decode im_Mo_decode se_Mo_decode rfl ml_La_79 d_La_law_574 (by decide) h61 rfl rfl (Nat.le_of_ble_eq_true rfl) ⟨by decide, by decide⟩ hkn ?_
  rintro r9 f2 ⟨rfl, hg⟩
  exact G_icmp_eq hX d_La_law_577 rfl (fun _ => kk f2 hg) (fun h9 => absurd rfl h9)
theorem lc_14 (hX : Ok E X "DeltaFerryLaw" nm code 4 (some .boolean) room_1) (hs : Scr X b L xs) (hi : i + 5 ≤ L) (hL : L ≤ 2560) (hkn : k ≤ 600000 ∧ n ≤ 7302250) (hG : Good E stZ f) (kk : ∀ f2, Good E stZ f2 → G E X k n 628 (lvL E b i) [] (wl E f2)) : G E X k n 582 (lvL E b i) [] (wl E f) := by
  obtain ⟨fs, h00⟩ := hG.df
  obtain ⟨x, Mid, hc1, hc2⟩ := P_begin (E := E) (st := stZ) (sx xs (i + 1)) (sx xs (i + 2)) (sx_b xs _) (sx_b xs _) f hG
  refine G_aload_n hX 2 rfl rfl d_La_law_582 ?_
  refine L_arg hX hs (i := i) (j := 1) (by omega) hL d_La_law_583 d_La_law_584 d_La_law_585 d_La_law_586 d_La_law_587 ?_
  refine L_arg hX hs (i := i) (j := 2) (by omega) hL d_La_law_588 d_La_law_589 d_La_law_590 d_La_law_591 d_La_law_592 ?_
  refine L_call hX (st := []) hc1 cm_Df_begin im_Df_begin se_Df_begin rfl ml_La_80 d_La_law_593 (by decide) h00 rfl rfl (Nat.le_of_ble_eq_true rfl) ⟨by decide, by decide⟩ hkn ?_
  rintro r9 f1 ⟨rfl, hm⟩
  obtain ⟨⟨F, h61⟩, hc3⟩ := hc2 f1 hm
  refine G_aload_n hX 1 rfl rfl d_La_law_596 ?_
  refine L_arg hX hs (i := i) (j := 1) (by omega) hL d_La_law_597 d_La_law_598 d_La_law_599 d_La_law_600 d_La_law_601 ?_
  refine L_arg hX hs (i := i) (j := 2) (by omega) hL d_La_law_602 d_La_law_603 d_La_law_604 d_La_law_605 d_La_law_606 ?_
  refine L_call hX (st := [.int x]) hc3 cm_Mo_begin im_Mo_begin se_Mo_begin rfl ml_La_83 d_La_law_607 (by decide) h61 rfl rfl (Nat.le_of_ble_eq_true rfl) ⟨by decide, by decide⟩ hkn ?_
  rintro r9 f2 ⟨rfl, hg⟩
  exact G_icmp_eq hX d_La_law_610 rfl (fun _ => kk f2 hg) (fun h9 => absurd rfl h9)
theorem lc_15 (hX : Ok E X "DeltaFerryLaw" nm code 4 (some .boolean) room_1) (hs : Scr X b L xs) (hi : i + 5 ≤ L) (hL : L ≤ 2560) (hkn : k ≤ 600000 ∧ n ≤ 7302250) (hG : Good E stZ f) (kk : ∀ f2, Good E stZ f2 → G E X k n 628 (lvL E b i) [] (wl E f2)) : G E X k n 615 (lvL E b i) [] (wl E f) := by
  obtain ⟨fs, h00⟩ := hG.df
  obtain ⟨x, Mid, hc1, hc2⟩ := P_step (E := E) (st := stZ) stOK_Z f hG
  refine G_aload_n hX 2 rfl rfl d_La_law_615 ?_
  refine L_call hX (st := []) hc1 cm_Df_step im_Df_step se_Df_step rfl ml_La_84 d_La_law_616 (by decide) h00 rfl rfl (Nat.le_of_ble_eq_true rfl) ⟨by decide, by decide⟩ hkn ?_
  rintro r9 f1 ⟨rfl, hm⟩
  obtain ⟨⟨F, h61⟩, hc3⟩ := hc2 f1 hm
  refine G_aload_n hX 1 rfl rfl d_La_law_619 ?_
  refine L_call hX (st := [.int x]) hc3 cm_Mo_step im_Mo_step se_Mo_step rfl ml_La_87 d_La_law_620 (by decide) h61 rfl rfl (Nat.le_of_ble_eq_true rfl) ⟨by decide, by decide⟩ hkn ?_
  rintro r9 f2 ⟨rfl, hg⟩
  exact G_icmp_eq hX d_La_law_623 rfl (fun _ => kk f2 hg) (fun h9 => absurd rfl h9)
end LCASES
