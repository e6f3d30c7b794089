/-! ===== the law's walk ===== -/
section LAWR
variable {mi : MI} {mc ms : Nat} {Z : Zt} {pc : Nat} {ls : List (Option Value)} {st : List Value} {w : AW} {k n : Nat}
theorem x_sldI {Ln : Nat} {xs : Nat → Int32} {r : Nat} {x : Int} (j : Nat) (hd : decode mi.2.1 pc = .ok (.iaload, 1)) (hx : x = (j : Int)) (hj : j < Ln) (hN : Ln < 2147483648) (kk : EX mi mc ms (some (Ln, xs)) Z (pc + 1) ls (.int (iI (xs j).toInt) :: st) w k n) : EX mi mc ms (some (Ln, xs)) Z pc ls (.int (iI x) :: .retAddr r :: st) w k n := by
  rw [iI_of] at kk
  exact x_sld hd hx hj hN kk
theorem x_icmp_sm {SC : Option (Nat × (Nat → Int32))} {x : Int32} {off : Int} (tgt : Nat) (hd : decode mi.2.1 pc = .ok (.if_icmp .eq off, 3)) (kk : EX mi mc ms SC Z tgt ls st w k n) (ht : (pc : Int) + off = (tgt : Int) := by decide) : EX mi mc ms SC Z pc ls (.int x :: .int x :: st) w k n := by
  intro p l e s m args below meth c D dA S b H locs la hk hE hw hS hl
  exact lv_icmp_eq hk.1 hk.2.1 hd ht (fun _ => kk p l e s m args below meth c D dA S b H locs la hk hE hw hS hl) (fun h => absurd rfl h)
end LAWR
abbrev lwL (j : Nat) : List (Option Value) := [some (.retAddr 0), some (.ref (0 + 0)), some (.ref (34 + 0)), some (.int (iI ((6 * j : Nat) : Int)))]
abbrev lwE (Z : Zt) (L : Nat) (xs : Nat → Int32) (pc j : Nat) (w : AW) : Prop := EX I_L_law 600000 7302250 (some (L, xs)) Z pc (lwL j) [] w 46 1722
set_option maxRecDepth 100000 in
set_option maxHeartbeats 4000000 in
theorem law_c0 {Z : Zt} {L : Nat} {xs : Nat → Int32} (hL : L ≤ 3072) (j : Nat) (hj : 6 * j + 6 ≤ L) (c : Int) (w : AW) (h0 : 0 ≤ c) (h1 : c ≤ 30000) (hI : LI c w) (kk : ∀ w', LI (c + 41) w' → lwE Z L xs 933 j w') : lwE Z L xs 148 j w := by
  obtain ⟨⟨fs0, hr0⟩, -⟩ := LI_0 hI
  obtain ⟨R1, hc1, hn1⟩ := two_record (xs (6 * j + 1)).toInt (xs (6 * j + 2)).toInt (iI_R _) (iI_R _) c w h0 h1 hI
  refine x_aload_n dL_law_148 rfl ?_
  refine x_aload_s dL_law_149 rfl ?_
  refine x_iload_n dL_law_150 rfl ?_
  refine x_iconst dL_law_151 ?_
  refine x_iadd dL_law_152 ?_
  refine x_sldI (6 * j + 1) dL_law_153 (by omega) (by omega) (by omega) ?_
  refine x_aload_s dL_law_154 rfl ?_
  refine x_iload_n dL_law_155 rfl ?_
  refine x_iconst dL_law_156 ?_
  refine x_iadd dL_law_157 ?_
  refine x_sldI (6 * j + 2) dL_law_158 (by omega) (by omega) (by omega) ?_
  refine x_calliV dL_law_159 mk_X5_record ml_L_13 hc1 hr0 rfl (fun x1 w1 q1 => ?_)
  obtain ⟨⟨fs1, hr1⟩, R2, hc2, hn2⟩ := hn1 x1 w1 q1
  refine x_aload_n dL_law_162 rfl ?_
  refine x_aload_s dL_law_163 rfl ?_
  refine x_iload_n dL_law_164 rfl ?_
  refine x_iconst dL_law_165 ?_
  refine x_iadd dL_law_166 ?_
  refine x_sldI (6 * j + 1) dL_law_167 (by omega) (by omega) (by omega) ?_
  refine x_aload_s dL_law_168 rfl ?_
  refine x_iload_n dL_law_169 rfl ?_
  refine x_iconst dL_law_170 ?_
  refine x_iadd dL_law_171 ?_
  refine x_sldI (6 * j + 2) dL_law_172 (by omega) (by omega) (by omega) ?_
  refine x_calliV dL_law_173 mk_X6_record ml_L_17 hc2 hr1 rfl (fun x2 w2 q2 => ?_)
  obtain ⟨rfl, hI2⟩ := hn2 x2 w2 q2
  refine x_icmp_sm 933 dL_law_176 ?_
  exact kk _ hI2
set_option maxRecDepth 100000 in
set_option maxHeartbeats 4000000 in
theorem law_c1 {Z : Zt} {L : Nat} {xs : Nat → Int32} (hL : L ≤ 3072) (j : Nat) (hj : 6 * j + 6 ≤ L) (c : Int) (w : AW) (h0 : 0 ≤ c) (h1 : c ≤ 30000) (hI : LI c w) (kk : ∀ w', LI (c + 41) w' → lwE Z L xs 933 j w') : lwE Z L xs 181 j w := by
  obtain ⟨⟨fs0, hr0⟩, -⟩ := LI_0 hI
  obtain ⟨R1, hc1, hn1⟩ := two_change (xs (6 * j + 1)).toInt (xs (6 * j + 2)).toInt (iI_R _) (iI_R _) c w h0 h1 hI
  refine x_aload_n dL_law_181 rfl ?_
  refine x_aload_s dL_law_182 rfl ?_
  refine x_iload_n dL_law_183 rfl ?_
  refine x_iconst dL_law_184 ?_
  refine x_iadd dL_law_185 ?_
  refine x_sldI (6 * j + 1) dL_law_186 (by omega) (by omega) (by omega) ?_
  refine x_aload_s dL_law_187 rfl ?_
  refine x_iload_n dL_law_188 rfl ?_
  refine x_iconst dL_law_189 ?_
  refine x_iadd dL_law_190 ?_
  refine x_sldI (6 * j + 2) dL_law_191 (by omega) (by omega) (by omega) ?_
  refine x_calliV dL_law_192 mk_X5_change ml_L_18 hc1 hr0 rfl (fun x1 w1 q1 => ?_)
  obtain ⟨⟨fs1, hr1⟩, R2, hc2, hn2⟩ := hn1 x1 w1 q1
  refine x_aload_n dL_law_195 rfl ?_
  refine x_aload_s dL_law_196 rfl ?_
  refine x_iload_n dL_law_197 rfl ?_
  refine x_iconst dL_law_198 ?_
  refine x_iadd dL_law_199 ?_
  refine x_sldI (6 * j + 1) dL_law_200 (by omega) (by omega) (by omega) ?_
  refine x_aload_s dL_law_201 rfl ?_
  refine x_iload_n dL_law_202 rfl ?_
  refine x_iconst dL_law_203 ?_
  refine x_iadd dL_law_204 ?_
  refine x_sldI (6 * j + 2) dL_law_205 (by omega) (by omega) (by omega) ?_
  refine x_calliV dL_law_206 mk_X6_change ml_L_21 hc2 hr1 rfl (fun x2 w2 q2 => ?_)
  obtain ⟨rfl, hI2⟩ := hn2 x2 w2 q2
  refine x_icmp_sm 933 dL_law_209 ?_
  exact kk _ hI2
set_option maxRecDepth 100000 in
set_option maxHeartbeats 4000000 in
theorem law_c2 {Z : Zt} {L : Nat} {xs : Nat → Int32} (hL : L ≤ 3072) (j : Nat) (hj : 6 * j + 6 ≤ L) (c : Int) (w : AW) (h0 : 0 ≤ c) (h1 : c ≤ 30000) (hI : LI c w) (kk : ∀ w', LI (c + 41) w' → lwE Z L xs 933 j w') : lwE Z L xs 214 j w := by
  obtain ⟨⟨fs0, hr0⟩, -⟩ := LI_0 hI
  obtain ⟨R1, hc1, hn1⟩ := two_told (xs (6 * j + 1)).toInt (xs (6 * j + 2)).toInt (iI_R _) (iI_R _) c w h0 h1 hI
  refine x_aload_n dL_law_214 rfl ?_
  refine x_aload_s dL_law_215 rfl ?_
  refine x_iload_n dL_law_216 rfl ?_
  refine x_iconst dL_law_217 ?_
  refine x_iadd dL_law_218 ?_
  refine x_sldI (6 * j + 1) dL_law_219 (by omega) (by omega) (by omega) ?_
  refine x_aload_s dL_law_220 rfl ?_
  refine x_iload_n dL_law_221 rfl ?_
  refine x_iconst dL_law_222 ?_
  refine x_iadd dL_law_223 ?_
  refine x_sldI (6 * j + 2) dL_law_224 (by omega) (by omega) (by omega) ?_
  refine x_calliV dL_law_225 mk_X5_told ml_L_22 hc1 hr0 rfl (fun x1 w1 q1 => ?_)
  obtain ⟨⟨fs1, hr1⟩, R2, hc2, hn2⟩ := hn1 x1 w1 q1
  refine x_aload_n dL_law_228 rfl ?_
  refine x_aload_s dL_law_229 rfl ?_
  refine x_iload_n dL_law_230 rfl ?_
  refine x_iconst dL_law_231 ?_
  refine x_iadd dL_law_232 ?_
  refine x_sldI (6 * j + 1) dL_law_233 (by omega) (by omega) (by omega) ?_
  refine x_aload_s dL_law_234 rfl ?_
  refine x_iload_n dL_law_235 rfl ?_
  refine x_iconst dL_law_236 ?_
  refine x_iadd dL_law_237 ?_
  refine x_sldI (6 * j + 2) dL_law_238 (by omega) (by omega) (by omega) ?_
  refine x_calliV dL_law_239 mk_X6_told ml_L_25 hc2 hr1 rfl (fun x2 w2 q2 => ?_)
  obtain ⟨rfl, hI2⟩ := hn2 x2 w2 q2
  refine x_icmp_sm 933 dL_law_242 ?_
  exact kk _ hI2
set_option maxRecDepth 100000 in
set_option maxHeartbeats 4000000 in
theorem law_c3 {Z : Zt} {L : Nat} {xs : Nat → Int32} (hL : L ≤ 3072) (j : Nat) (hj : 6 * j + 6 ≤ L) (c : Int) (w : AW) (h0 : 0 ≤ c) (h1 : c ≤ 30000) (hI : LI c w) (kk : ∀ w', LI (c + 41) w' → lwE Z L xs 933 j w') : lwE Z L xs 247 j w := by
  obtain ⟨⟨fs0, hr0⟩, -⟩ := LI_0 hI
  obtain ⟨R1, hc1, hn1⟩ := two_song (xs (6 * j + 1)).toInt (xs (6 * j + 2)).toInt (iI_R _) (iI_R _) c w h0 h1 hI
  refine x_aload_n dL_law_247 rfl ?_
  refine x_aload_s dL_law_248 rfl ?_
  refine x_iload_n dL_law_249 rfl ?_
  refine x_iconst dL_law_250 ?_
  refine x_iadd dL_law_251 ?_
  refine x_sldI (6 * j + 1) dL_law_252 (by omega) (by omega) (by omega) ?_
  refine x_aload_s dL_law_253 rfl ?_
  refine x_iload_n dL_law_254 rfl ?_
  refine x_iconst dL_law_255 ?_
  refine x_iadd dL_law_256 ?_
  refine x_sldI (6 * j + 2) dL_law_257 (by omega) (by omega) (by omega) ?_
  refine x_calliV dL_law_258 mk_X5_song ml_L_26 hc1 hr0 rfl (fun x1 w1 q1 => ?_)
  obtain ⟨⟨fs1, hr1⟩, R2, hc2, hn2⟩ := hn1 x1 w1 q1
  refine x_aload_n dL_law_261 rfl ?_
  refine x_aload_s dL_law_262 rfl ?_
  refine x_iload_n dL_law_263 rfl ?_
  refine x_iconst dL_law_264 ?_
  refine x_iadd dL_law_265 ?_
  refine x_sldI (6 * j + 1) dL_law_266 (by omega) (by omega) (by omega) ?_
  refine x_aload_s dL_law_267 rfl ?_
  refine x_iload_n dL_law_268 rfl ?_
  refine x_iconst dL_law_269 ?_
  refine x_iadd dL_law_270 ?_
  refine x_sldI (6 * j + 2) dL_law_271 (by omega) (by omega) (by omega) ?_
  refine x_calliV dL_law_272 mk_X6_song ml_L_29 hc2 hr1 rfl (fun x2 w2 q2 => ?_)
  obtain ⟨rfl, hI2⟩ := hn2 x2 w2 q2
  refine x_icmp_sm 933 dL_law_275 ?_
  exact kk _ hI2
set_option maxRecDepth 100000 in
set_option maxHeartbeats 4000000 in
theorem law_c4 {Z : Zt} {L : Nat} {xs : Nat → Int32} (hL : L ≤ 3072) (j : Nat) (hj : 6 * j + 6 ≤ L) (c : Int) (w : AW) (h0 : 0 ≤ c) (h1 : c ≤ 30000) (hI : LI c w) (kk : ∀ w', LI (c + 41) w' → lwE Z L xs 933 j w') : lwE Z L xs 280 j w := by
  obtain ⟨⟨fs0, hr0⟩, -⟩ := LI_0 hI
  obtain ⟨R1, hc1, hn1⟩ := two_stick (xs (6 * j + 1)).toInt (xs (6 * j + 2)).toInt (iI_R _) (iI_R _) c w h0 h1 hI
  refine x_aload_n dL_law_280 rfl ?_
  refine x_aload_s dL_law_281 rfl ?_
  refine x_iload_n dL_law_282 rfl ?_
  refine x_iconst dL_law_283 ?_
  refine x_iadd dL_law_284 ?_
  refine x_sldI (6 * j + 1) dL_law_285 (by omega) (by omega) (by omega) ?_
  refine x_aload_s dL_law_286 rfl ?_
  refine x_iload_n dL_law_287 rfl ?_
  refine x_iconst dL_law_288 ?_
  refine x_iadd dL_law_289 ?_
  refine x_sldI (6 * j + 2) dL_law_290 (by omega) (by omega) (by omega) ?_
  refine x_calliV dL_law_291 mk_X5_stick ml_L_30 hc1 hr0 rfl (fun x1 w1 q1 => ?_)
  obtain ⟨⟨fs1, hr1⟩, R2, hc2, hn2⟩ := hn1 x1 w1 q1
  refine x_aload_n dL_law_294 rfl ?_
  refine x_aload_s dL_law_295 rfl ?_
  refine x_iload_n dL_law_296 rfl ?_
  refine x_iconst dL_law_297 ?_
  refine x_iadd dL_law_298 ?_
  refine x_sldI (6 * j + 1) dL_law_299 (by omega) (by omega) (by omega) ?_
  refine x_aload_s dL_law_300 rfl ?_
  refine x_iload_n dL_law_301 rfl ?_
  refine x_iconst dL_law_302 ?_
  refine x_iadd dL_law_303 ?_
  refine x_sldI (6 * j + 2) dL_law_304 (by omega) (by omega) (by omega) ?_
  refine x_calliV dL_law_305 mk_X6_stick ml_L_33 hc2 hr1 rfl (fun x2 w2 q2 => ?_)
  obtain ⟨rfl, hI2⟩ := hn2 x2 w2 q2
  refine x_icmp_sm 933 dL_law_308 ?_
  exact kk _ hI2
set_option maxRecDepth 100000 in
set_option maxHeartbeats 4000000 in
theorem law_c5 {Z : Zt} {L : Nat} {xs : Nat → Int32} (hL : L ≤ 3072) (j : Nat) (hj : 6 * j + 6 ≤ L) (c : Int) (w : AW) (h0 : 0 ≤ c) (h1 : c ≤ 30000) (hI : LI c w) (kk : ∀ w', LI (c + 41) w' → lwE Z L xs 933 j w') : lwE Z L xs 313 j w := by
  obtain ⟨⟨fs0, hr0⟩, -⟩ := LI_0 hI
  obtain ⟨R1, hc1, hn1⟩ := two_prices (xs (6 * j + 1)).toInt (xs (6 * j + 2)).toInt (xs (6 * j + 3)).toInt (iI_R _) (iI_R _) (iI_R _) c w h0 h1 hI
  refine x_aload_n dL_law_313 rfl ?_
  refine x_aload_s dL_law_314 rfl ?_
  refine x_iload_n dL_law_315 rfl ?_
  refine x_iconst dL_law_316 ?_
  refine x_iadd dL_law_317 ?_
  refine x_sldI (6 * j + 1) dL_law_318 (by omega) (by omega) (by omega) ?_
  refine x_aload_s dL_law_319 rfl ?_
  refine x_iload_n dL_law_320 rfl ?_
  refine x_iconst dL_law_321 ?_
  refine x_iadd dL_law_322 ?_
  refine x_sldI (6 * j + 2) dL_law_323 (by omega) (by omega) (by omega) ?_
  refine x_aload_s dL_law_324 rfl ?_
  refine x_iload_n dL_law_325 rfl ?_
  refine x_iconst dL_law_326 ?_
  refine x_iadd dL_law_327 ?_
  refine x_sldI (6 * j + 3) dL_law_328 (by omega) (by omega) (by omega) ?_
  refine x_calliV dL_law_329 mk_X5_prices ml_L_34 hc1 hr0 rfl (fun x1 w1 q1 => ?_)
  obtain ⟨⟨fs1, hr1⟩, R2, hc2, hn2⟩ := hn1 x1 w1 q1
  refine x_aload_n dL_law_332 rfl ?_
  refine x_aload_s dL_law_333 rfl ?_
  refine x_iload_n dL_law_334 rfl ?_
  refine x_iconst dL_law_335 ?_
  refine x_iadd dL_law_336 ?_
  refine x_sldI (6 * j + 1) dL_law_337 (by omega) (by omega) (by omega) ?_
  refine x_aload_s dL_law_338 rfl ?_
  refine x_iload_n dL_law_339 rfl ?_
  refine x_iconst dL_law_340 ?_
  refine x_iadd dL_law_341 ?_
  refine x_sldI (6 * j + 2) dL_law_342 (by omega) (by omega) (by omega) ?_
  refine x_aload_s dL_law_343 rfl ?_
  refine x_iload_n dL_law_344 rfl ?_
  refine x_iconst dL_law_345 ?_
  refine x_iadd dL_law_346 ?_
  refine x_sldI (6 * j + 3) dL_law_347 (by omega) (by omega) (by omega) ?_
  refine x_calliV dL_law_348 mk_X6_prices ml_L_38 hc2 hr1 rfl (fun x2 w2 q2 => ?_)
  obtain ⟨rfl, hI2⟩ := hn2 x2 w2 q2
  refine x_icmp_sm 933 dL_law_351 ?_
  exact kk _ hI2
set_option maxRecDepth 100000 in
set_option maxHeartbeats 4000000 in
theorem law_c6 {Z : Zt} {L : Nat} {xs : Nat → Int32} (hL : L ≤ 3072) (j : Nat) (hj : 6 * j + 6 ≤ L) (c : Int) (w : AW) (h0 : 0 ≤ c) (h1 : c ≤ 30000) (hI : LI c w) (kk : ∀ w', LI (c + 41) w' → lwE Z L xs 933 j w') : lwE Z L xs 356 j w := by
  obtain ⟨⟨fs0, hr0⟩, -⟩ := LI_0 hI
  obtain ⟨R1, hc1, hn1⟩ := two_coin (xs (6 * j + 1)).toInt (iI_R _) c w h0 h1 hI
  refine x_aload_n dL_law_356 rfl ?_
  refine x_aload_s dL_law_357 rfl ?_
  refine x_iload_n dL_law_358 rfl ?_
  refine x_iconst dL_law_359 ?_
  refine x_iadd dL_law_360 ?_
  refine x_sldI (6 * j + 1) dL_law_361 (by omega) (by omega) (by omega) ?_
  refine x_calliV dL_law_362 mk_X5_coin ml_L_39 hc1 hr0 rfl (fun x1 w1 q1 => ?_)
  obtain ⟨⟨fs1, hr1⟩, R2, hc2, hn2⟩ := hn1 x1 w1 q1
  refine x_aload_n dL_law_365 rfl ?_
  refine x_aload_s dL_law_366 rfl ?_
  refine x_iload_n dL_law_367 rfl ?_
  refine x_iconst dL_law_368 ?_
  refine x_iadd dL_law_369 ?_
  refine x_sldI (6 * j + 1) dL_law_370 (by omega) (by omega) (by omega) ?_
  refine x_calliV dL_law_371 mk_X6_coin ml_L_43 hc2 hr1 rfl (fun x2 w2 q2 => ?_)
  obtain ⟨rfl, hI2⟩ := hn2 x2 w2 q2
  refine x_icmp_sm 933 dL_law_374 ?_
  exact kk _ hI2
set_option maxRecDepth 100000 in
set_option maxHeartbeats 4000000 in
theorem law_c7 {Z : Zt} {L : Nat} {xs : Nat → Int32} (hL : L ≤ 3072) (j : Nat) (hj : 6 * j + 6 ≤ L) (c : Int) (w : AW) (h0 : 0 ≤ c) (h1 : c ≤ 30000) (hI : LI c w) (kk : ∀ w', LI (c + 41) w' → lwE Z L xs 933 j w') : lwE Z L xs 379 j w := by
  obtain ⟨⟨fs0, hr0⟩, -⟩ := LI_0 hI
  obtain ⟨R1, hc1, hn1⟩ := two_set (xs (6 * j + 1)).toInt (xs (6 * j + 2)).toInt (iI_R _) (iI_R _) c w h0 h1 hI
  refine x_aload_n dL_law_379 rfl ?_
  refine x_aload_s dL_law_380 rfl ?_
  refine x_iload_n dL_law_381 rfl ?_
  refine x_iconst dL_law_382 ?_
  refine x_iadd dL_law_383 ?_
  refine x_sldI (6 * j + 1) dL_law_384 (by omega) (by omega) (by omega) ?_
  refine x_aload_s dL_law_385 rfl ?_
  refine x_iload_n dL_law_386 rfl ?_
  refine x_iconst dL_law_387 ?_
  refine x_iadd dL_law_388 ?_
  refine x_sldI (6 * j + 2) dL_law_389 (by omega) (by omega) (by omega) ?_
  refine x_calliV dL_law_390 mk_X5_set ml_L_44 hc1 hr0 rfl (fun x1 w1 q1 => ?_)
  obtain ⟨⟨fs1, hr1⟩, R2, hc2, hn2⟩ := hn1 x1 w1 q1
  refine x_aload_n dL_law_393 rfl ?_
  refine x_aload_s dL_law_394 rfl ?_
  refine x_iload_n dL_law_395 rfl ?_
  refine x_iconst dL_law_396 ?_
  refine x_iadd dL_law_397 ?_
  refine x_sldI (6 * j + 1) dL_law_398 (by omega) (by omega) (by omega) ?_
  refine x_aload_s dL_law_399 rfl ?_
  refine x_iload_n dL_law_400 rfl ?_
  refine x_iconst dL_law_401 ?_
  refine x_iadd dL_law_402 ?_
  refine x_sldI (6 * j + 2) dL_law_403 (by omega) (by omega) (by omega) ?_
  refine x_calliV dL_law_404 mk_X6_set ml_L_47 hc2 hr1 rfl (fun x2 w2 q2 => ?_)
  obtain ⟨rfl, hI2⟩ := hn2 x2 w2 q2
  refine x_icmp_sm 933 dL_law_407 ?_
  exact kk _ hI2
set_option maxRecDepth 100000 in
set_option maxHeartbeats 4000000 in
theorem law_c8 {Z : Zt} {L : Nat} {xs : Nat → Int32} (hL : L ≤ 3072) (j : Nat) (hj : 6 * j + 6 ≤ L) (c : Int) (w : AW) (h0 : 0 ≤ c) (h1 : c ≤ 30000) (hI : LI c w) (kk : ∀ w', LI (c + 41) w' → lwE Z L xs 933 j w') : lwE Z L xs 412 j w := by
  obtain ⟨⟨fs0, hr0⟩, -⟩ := LI_0 hI
  obtain ⟨R1, hc1, hn1⟩ := two_key (xs (6 * j + 1)).toInt (iI_R _) c w h0 h1 hI
  refine x_aload_n dL_law_412 rfl ?_
  refine x_aload_s dL_law_413 rfl ?_
  refine x_iload_n dL_law_414 rfl ?_
  refine x_iconst dL_law_415 ?_
  refine x_iadd dL_law_416 ?_
  refine x_sldI (6 * j + 1) dL_law_417 (by omega) (by omega) (by omega) ?_
  refine x_calliV dL_law_418 mk_X5_key ml_L_48 hc1 hr0 rfl (fun x1 w1 q1 => ?_)
  obtain ⟨⟨fs1, hr1⟩, R2, hc2, hn2⟩ := hn1 x1 w1 q1
  refine x_aload_n dL_law_421 rfl ?_
  refine x_aload_s dL_law_422 rfl ?_
  refine x_iload_n dL_law_423 rfl ?_
  refine x_iconst dL_law_424 ?_
  refine x_iadd dL_law_425 ?_
  refine x_sldI (6 * j + 1) dL_law_426 (by omega) (by omega) (by omega) ?_
  refine x_calliV dL_law_427 mk_X6_key ml_L_51 hc2 hr1 rfl (fun x2 w2 q2 => ?_)
  obtain ⟨rfl, hI2⟩ := hn2 x2 w2 q2
  refine x_icmp_sm 933 dL_law_430 ?_
  exact kk _ hI2
set_option maxRecDepth 100000 in
set_option maxHeartbeats 4000000 in
theorem law_c9 {Z : Zt} {L : Nat} {xs : Nat → Int32} (hL : L ≤ 3072) (j : Nat) (hj : 6 * j + 6 ≤ L) (c : Int) (w : AW) (h0 : 0 ≤ c) (h1 : c ≤ 30000) (hI : LI c w) (kk : ∀ w', LI (c + 41) w' → lwE Z L xs 933 j w') : lwE Z L xs 435 j w := by
  obtain ⟨⟨fs0, hr0⟩, -⟩ := LI_0 hI
  obtain ⟨R1, hc1, hn1⟩ := two_ticks (xs (6 * j + 1)).toInt (iI_R _) c w h0 h1 hI
  refine x_aload_n dL_law_435 rfl ?_
  refine x_aload_s dL_law_436 rfl ?_
  refine x_iload_n dL_law_437 rfl ?_
  refine x_iconst dL_law_438 ?_
  refine x_iadd dL_law_439 ?_
  refine x_sldI (6 * j + 1) dL_law_440 (by omega) (by omega) (by omega) ?_
  refine x_calliV dL_law_441 mk_X5_ticks ml_L_52 hc1 hr0 rfl (fun x1 w1 q1 => ?_)
  obtain ⟨⟨fs1, hr1⟩, R2, hc2, hn2⟩ := hn1 x1 w1 q1
  refine x_aload_n dL_law_444 rfl ?_
  refine x_aload_s dL_law_445 rfl ?_
  refine x_iload_n dL_law_446 rfl ?_
  refine x_iconst dL_law_447 ?_
  refine x_iadd dL_law_448 ?_
  refine x_sldI (6 * j + 1) dL_law_449 (by omega) (by omega) (by omega) ?_
  refine x_calliV dL_law_450 mk_X6_ticks ml_L_55 hc2 hr1 rfl (fun x2 w2 q2 => ?_)
  obtain ⟨rfl, hI2⟩ := hn2 x2 w2 q2
  refine x_icmp_sm 933 dL_law_453 ?_
  exact kk _ hI2
set_option maxRecDepth 100000 in
set_option maxHeartbeats 4000000 in
theorem law_c10 {Z : Zt} {L : Nat} {xs : Nat → Int32} (hL : L ≤ 3072) (j : Nat) (hj : 6 * j + 6 ≤ L) (c : Int) (w : AW) (h0 : 0 ≤ c) (h1 : c ≤ 30000) (hI : LI c w) (kk : ∀ w', LI (c + 41) w' → lwE Z L xs 933 j w') : lwE Z L xs 458 j w := by
  obtain ⟨⟨fs0, hr0⟩, -⟩ := LI_0 hI
  obtain ⟨R1, hc1, hn1⟩ := two_carriage (xs (6 * j + 1)).toInt (iI_R _) c w h0 h1 hI
  refine x_aload_n dL_law_458 rfl ?_
  refine x_aload_s dL_law_459 rfl ?_
  refine x_iload_n dL_law_460 rfl ?_
  refine x_iconst dL_law_461 ?_
  refine x_iadd dL_law_462 ?_
  refine x_sldI (6 * j + 1) dL_law_463 (by omega) (by omega) (by omega) ?_
  refine x_calliV dL_law_464 mk_X5_carriage ml_L_56 hc1 hr0 rfl (fun x1 w1 q1 => ?_)
  obtain ⟨⟨fs1, hr1⟩, R2, hc2, hn2⟩ := hn1 x1 w1 q1
  refine x_aload_n dL_law_467 rfl ?_
  refine x_aload_s dL_law_468 rfl ?_
  refine x_iload_n dL_law_469 rfl ?_
  refine x_iconst dL_law_470 ?_
  refine x_iadd dL_law_471 ?_
  refine x_sldI (6 * j + 1) dL_law_472 (by omega) (by omega) (by omega) ?_
  refine x_calliV dL_law_473 mk_X6_carriage ml_L_59 hc2 hr1 rfl (fun x2 w2 q2 => ?_)
  obtain ⟨rfl, hI2⟩ := hn2 x2 w2 q2
  refine x_icmp_sm 933 dL_law_476 ?_
  exact kk _ hI2
set_option maxRecDepth 100000 in
set_option maxHeartbeats 4000000 in
theorem law_c11 {Z : Zt} {L : Nat} {xs : Nat → Int32} (hL : L ≤ 3072) (j : Nat) (hj : 6 * j + 6 ≤ L) (c : Int) (w : AW) (h0 : 0 ≤ c) (h1 : c ≤ 30000) (hI : LI c w) (kk : ∀ w', LI (c + 41) w' → lwE Z L xs 933 j w') : lwE Z L xs 481 j w := by
  obtain ⟨⟨fs0, hr0⟩, -⟩ := LI_0 hI
  obtain ⟨R1, hc1, hn1⟩ := two_count (xs (6 * j + 1)).toInt (iI_R _) c w h0 h1 hI
  refine x_aload_n dL_law_481 rfl ?_
  refine x_aload_s dL_law_482 rfl ?_
  refine x_iload_n dL_law_483 rfl ?_
  refine x_iconst dL_law_484 ?_
  refine x_iadd dL_law_485 ?_
  refine x_sldI (6 * j + 1) dL_law_486 (by omega) (by omega) (by omega) ?_
  refine x_calliV dL_law_487 mk_X5_count ml_L_60 hc1 hr0 rfl (fun x1 w1 q1 => ?_)
  obtain ⟨⟨fs1, hr1⟩, R2, hc2, hn2⟩ := hn1 x1 w1 q1
  refine x_aload_n dL_law_490 rfl ?_
  refine x_aload_s dL_law_491 rfl ?_
  refine x_iload_n dL_law_492 rfl ?_
  refine x_iconst dL_law_493 ?_
  refine x_iadd dL_law_494 ?_
  refine x_sldI (6 * j + 1) dL_law_495 (by omega) (by omega) (by omega) ?_
  refine x_calliV dL_law_496 mk_X6_count ml_L_63 hc2 hr1 rfl (fun x2 w2 q2 => ?_)
  obtain ⟨rfl, hI2⟩ := hn2 x2 w2 q2
  refine x_icmp_sm 933 dL_law_499 ?_
  exact kk _ hI2
set_option maxRecDepth 100000 in
set_option maxHeartbeats 4000000 in
theorem law_c12 {Z : Zt} {L : Nat} {xs : Nat → Int32} (hL : L ≤ 3072) (j : Nat) (hj : 6 * j + 6 ≤ L) (c : Int) (w : AW) (h0 : 0 ≤ c) (h1 : c ≤ 30000) (hI : LI c w) (kk : ∀ w', LI (c + 41) w' → lwE Z L xs 933 j w') : lwE Z L xs 504 j w := by
  obtain ⟨⟨fs0, hr0⟩, -⟩ := LI_0 hI
  obtain ⟨R1, hc1, hn1⟩ := two_next (xs (6 * j + 1)).toInt (iI_R _) c w h0 h1 hI
  refine x_aload_n dL_law_504 rfl ?_
  refine x_aload_s dL_law_505 rfl ?_
  refine x_iload_n dL_law_506 rfl ?_
  refine x_iconst dL_law_507 ?_
  refine x_iadd dL_law_508 ?_
  refine x_sldI (6 * j + 1) dL_law_509 (by omega) (by omega) (by omega) ?_
  refine x_calliV dL_law_510 mk_X5_next ml_L_64 hc1 hr0 rfl (fun x1 w1 q1 => ?_)
  obtain ⟨⟨fs1, hr1⟩, R2, hc2, hn2⟩ := hn1 x1 w1 q1
  refine x_aload_n dL_law_513 rfl ?_
  refine x_aload_s dL_law_514 rfl ?_
  refine x_iload_n dL_law_515 rfl ?_
  refine x_iconst dL_law_516 ?_
  refine x_iadd dL_law_517 ?_
  refine x_sldI (6 * j + 1) dL_law_518 (by omega) (by omega) (by omega) ?_
  refine x_calliV dL_law_519 mk_X6_next ml_L_67 hc2 hr1 rfl (fun x2 w2 q2 => ?_)
  obtain ⟨rfl, hI2⟩ := hn2 x2 w2 q2
  refine x_icmp_sm 933 dL_law_522 ?_
  exact kk _ hI2
set_option maxRecDepth 100000 in
set_option maxHeartbeats 4000000 in
theorem law_c13 {Z : Zt} {L : Nat} {xs : Nat → Int32} (hL : L ≤ 3072) (j : Nat) (hj : 6 * j + 6 ≤ L) (c : Int) (w : AW) (h0 : 0 ≤ c) (h1 : c ≤ 30000) (hI : LI c w) (kk : ∀ w', LI (c + 41) w' → lwE Z L xs 933 j w') : lwE Z L xs 527 j w := by
  obtain ⟨⟨fs0, hr0⟩, -⟩ := LI_0 hI
  obtain ⟨R1, hc1, hn1⟩ := two_when (xs (6 * j + 1)).toInt (iI_R _) c w h0 h1 hI
  refine x_aload_n dL_law_527 rfl ?_
  refine x_aload_s dL_law_528 rfl ?_
  refine x_iload_n dL_law_529 rfl ?_
  refine x_iconst dL_law_530 ?_
  refine x_iadd dL_law_531 ?_
  refine x_sldI (6 * j + 1) dL_law_532 (by omega) (by omega) (by omega) ?_
  refine x_calliV dL_law_533 mk_X5_when ml_L_68 hc1 hr0 rfl (fun x1 w1 q1 => ?_)
  obtain ⟨⟨fs1, hr1⟩, R2, hc2, hn2⟩ := hn1 x1 w1 q1
  refine x_aload_n dL_law_536 rfl ?_
  refine x_aload_s dL_law_537 rfl ?_
  refine x_iload_n dL_law_538 rfl ?_
  refine x_iconst dL_law_539 ?_
  refine x_iadd dL_law_540 ?_
  refine x_sldI (6 * j + 1) dL_law_541 (by omega) (by omega) (by omega) ?_
  refine x_calliV dL_law_542 mk_X6_when ml_L_71 hc2 hr1 rfl (fun x2 w2 q2 => ?_)
  obtain ⟨rfl, hI2⟩ := hn2 x2 w2 q2
  refine x_icmp_sm 933 dL_law_545 ?_
  exact kk _ hI2
set_option maxRecDepth 100000 in
set_option maxHeartbeats 4000000 in
theorem law_c14 {Z : Zt} {L : Nat} {xs : Nat → Int32} (hL : L ≤ 3072) (j : Nat) (hj : 6 * j + 6 ≤ L) (c : Int) (w : AW) (h0 : 0 ≤ c) (h1 : c ≤ 30000) (hI : LI c w) (kk : ∀ w', LI (c + 41) w' → lwE Z L xs 933 j w') : lwE Z L xs 550 j w := by
  obtain ⟨⟨fs0, hr0⟩, -⟩ := LI_0 hI
  obtain ⟨R1, hc1, hn1⟩ := two_done   c w h0 h1 hI
  refine x_aload_n dL_law_550 rfl ?_
  refine x_calliV dL_law_551 mk_X5_done ml_L_72 hc1 hr0 rfl (fun x1 w1 q1 => ?_)
  obtain ⟨⟨fs1, hr1⟩, R2, hc2, hn2⟩ := hn1 x1 w1 q1
  refine x_aload_n dL_law_554 rfl ?_
  refine x_calliV dL_law_555 mk_X6_done ml_L_76 hc2 hr1 rfl (fun x2 w2 q2 => ?_)
  obtain ⟨rfl, hI2⟩ := hn2 x2 w2 q2
  refine x_icmp_sm 933 dL_law_558 ?_
  exact kk _ hI2
set_option maxRecDepth 100000 in
set_option maxHeartbeats 4000000 in
theorem law_c15 {Z : Zt} {L : Nat} {xs : Nat → Int32} (hL : L ≤ 3072) (j : Nat) (hj : 6 * j + 6 ≤ L) (c : Int) (w : AW) (h0 : 0 ≤ c) (h1 : c ≤ 30000) (hI : LI c w) (kk : ∀ w', LI (c + 41) w' → lwE Z L xs 933 j w') : lwE Z L xs 563 j w := by
  obtain ⟨⟨fs0, hr0⟩, -⟩ := LI_0 hI
  obtain ⟨R1, hc1, hn1⟩ := two_better (xs (6 * j + 1)).toInt (iI_R _) c w h0 h1 hI
  refine x_aload_n dL_law_563 rfl ?_
  refine x_aload_s dL_law_564 rfl ?_
  refine x_iload_n dL_law_565 rfl ?_
  refine x_iconst dL_law_566 ?_
  refine x_iadd dL_law_567 ?_
  refine x_sldI (6 * j + 1) dL_law_568 (by omega) (by omega) (by omega) ?_
  refine x_calliV dL_law_569 mk_X5_better ml_L_77 hc1 hr0 rfl (fun x1 w1 q1 => ?_)
  obtain ⟨⟨fs1, hr1⟩, R2, hc2, hn2⟩ := hn1 x1 w1 q1
  refine x_aload_n dL_law_572 rfl ?_
  refine x_aload_s dL_law_573 rfl ?_
  refine x_iload_n dL_law_574 rfl ?_
  refine x_iconst dL_law_575 ?_
  refine x_iadd dL_law_576 ?_
  refine x_sldI (6 * j + 1) dL_law_577 (by omega) (by omega) (by omega) ?_
  refine x_calliV dL_law_578 mk_X6_better ml_L_80 hc2 hr1 rfl (fun x2 w2 q2 => ?_)
  obtain ⟨rfl, hI2⟩ := hn2 x2 w2 q2
  refine x_icmp_sm 933 dL_law_581 ?_
  exact kk _ hI2
set_option maxRecDepth 100000 in
set_option maxHeartbeats 4000000 in
theorem law_c16 {Z : Zt} {L : Nat} {xs : Nat → Int32} (hL : L ≤ 3072) (j : Nat) (hj : 6 * j + 6 ≤ L) (c : Int) (w : AW) (h0 : 0 ≤ c) (h1 : c ≤ 30000) (hI : LI c w) (kk : ∀ w', LI (c + 41) w' → lwE Z L xs 933 j w') : lwE Z L xs 586 j w := by
  obtain ⟨⟨fs0, hr0⟩, -⟩ := LI_0 hI
  obtain ⟨R1, hc1, hn1⟩ := two_heard (xs (6 * j + 1)).toInt (xs (6 * j + 2)).toInt (xs (6 * j + 3)).toInt (xs (6 * j + 4)).toInt (xs (6 * j + 5)).toInt (iI_R _) (iI_R _) (iI_R _) (iI_R _) (iI_R _) c w h0 h1 hI
  refine x_aload_n dL_law_586 rfl ?_
  refine x_aload_s dL_law_587 rfl ?_
  refine x_iload_n dL_law_588 rfl ?_
  refine x_iconst dL_law_589 ?_
  refine x_iadd dL_law_590 ?_
  refine x_sldI (6 * j + 1) dL_law_591 (by omega) (by omega) (by omega) ?_
  refine x_aload_s dL_law_592 rfl ?_
  refine x_iload_n dL_law_593 rfl ?_
  refine x_iconst dL_law_594 ?_
  refine x_iadd dL_law_595 ?_
  refine x_sldI (6 * j + 2) dL_law_596 (by omega) (by omega) (by omega) ?_
  refine x_aload_s dL_law_597 rfl ?_
  refine x_iload_n dL_law_598 rfl ?_
  refine x_iconst dL_law_599 ?_
  refine x_iadd dL_law_600 ?_
  refine x_sldI (6 * j + 3) dL_law_601 (by omega) (by omega) (by omega) ?_
  refine x_aload_s dL_law_602 rfl ?_
  refine x_iload_n dL_law_603 rfl ?_
  refine x_iconst dL_law_604 ?_
  refine x_iadd dL_law_605 ?_
  refine x_sldI (6 * j + 4) dL_law_606 (by omega) (by omega) (by omega) ?_
  refine x_aload_s dL_law_607 rfl ?_
  refine x_iload_n dL_law_608 rfl ?_
  refine x_iconst dL_law_609 ?_
  refine x_iadd dL_law_610 ?_
  refine x_sldI (6 * j + 5) dL_law_611 (by omega) (by omega) (by omega) ?_
  refine x_calliV dL_law_612 mk_X5_heard ml_L_81 hc1 hr0 rfl (fun x1 w1 q1 => ?_)
  obtain ⟨⟨fs1, hr1⟩, R2, hc2, hn2⟩ := hn1 x1 w1 q1
  refine x_aload_n dL_law_615 rfl ?_
  refine x_aload_s dL_law_616 rfl ?_
  refine x_iload_n dL_law_617 rfl ?_
  refine x_iconst dL_law_618 ?_
  refine x_iadd dL_law_619 ?_
  refine x_sldI (6 * j + 1) dL_law_620 (by omega) (by omega) (by omega) ?_
  refine x_aload_s dL_law_621 rfl ?_
  refine x_iload_n dL_law_622 rfl ?_
  refine x_iconst dL_law_623 ?_
  refine x_iadd dL_law_624 ?_
  refine x_sldI (6 * j + 2) dL_law_625 (by omega) (by omega) (by omega) ?_
  refine x_aload_s dL_law_626 rfl ?_
  refine x_iload_n dL_law_627 rfl ?_
  refine x_iconst dL_law_628 ?_
  refine x_iadd dL_law_629 ?_
  refine x_sldI (6 * j + 3) dL_law_630 (by omega) (by omega) (by omega) ?_
  refine x_aload_s dL_law_631 rfl ?_
  refine x_iload_n dL_law_632 rfl ?_
  refine x_iconst dL_law_633 ?_
  refine x_iadd dL_law_634 ?_
  refine x_sldI (6 * j + 4) dL_law_635 (by omega) (by omega) (by omega) ?_
  refine x_aload_s dL_law_636 rfl ?_
  refine x_iload_n dL_law_637 rfl ?_
  refine x_iconst dL_law_638 ?_
  refine x_iadd dL_law_639 ?_
  refine x_sldI (6 * j + 5) dL_law_640 (by omega) (by omega) (by omega) ?_
  refine x_calliV dL_law_641 mk_X6_heard ml_L_85 hc2 hr1 rfl (fun x2 w2 q2 => ?_)
  obtain ⟨rfl, hI2⟩ := hn2 x2 w2 q2
  refine x_icmp_sm 933 dL_law_644 ?_
  exact kk _ hI2
set_option maxRecDepth 100000 in
set_option maxHeartbeats 4000000 in
theorem law_c17 {Z : Zt} {L : Nat} {xs : Nat → Int32} (hL : L ≤ 3072) (j : Nat) (hj : 6 * j + 6 ≤ L) (c : Int) (w : AW) (h0 : 0 ≤ c) (h1 : c ≤ 30000) (hI : LI c w) (kk : ∀ w', LI (c + 41) w' → lwE Z L xs 933 j w') : lwE Z L xs 649 j w := by
  obtain ⟨⟨fs0, hr0⟩, -⟩ := LI_0 hI
  obtain ⟨R1, hc1, hn1⟩ := two_mayBe (xs (6 * j + 1)).toInt (xs (6 * j + 2)).toInt (xs (6 * j + 3)).toInt (xs (6 * j + 4)).toInt (xs (6 * j + 5)).toInt (iI_R _) (iI_R _) (iI_R _) (iI_R _) (iI_R _) c w h0 h1 hI
  refine x_aload_n dL_law_649 rfl ?_
  refine x_aload_s dL_law_650 rfl ?_
  refine x_iload_n dL_law_651 rfl ?_
  refine x_iconst dL_law_652 ?_
  refine x_iadd dL_law_653 ?_
  refine x_sldI (6 * j + 1) dL_law_654 (by omega) (by omega) (by omega) ?_
  refine x_aload_s dL_law_655 rfl ?_
  refine x_iload_n dL_law_656 rfl ?_
  refine x_iconst dL_law_657 ?_
  refine x_iadd dL_law_658 ?_
  refine x_sldI (6 * j + 2) dL_law_659 (by omega) (by omega) (by omega) ?_
  refine x_aload_s dL_law_660 rfl ?_
  refine x_iload_n dL_law_661 rfl ?_
  refine x_iconst dL_law_662 ?_
  refine x_iadd dL_law_663 ?_
  refine x_sldI (6 * j + 3) dL_law_664 (by omega) (by omega) (by omega) ?_
  refine x_aload_s dL_law_665 rfl ?_
  refine x_iload_n dL_law_666 rfl ?_
  refine x_iconst dL_law_667 ?_
  refine x_iadd dL_law_668 ?_
  refine x_sldI (6 * j + 4) dL_law_669 (by omega) (by omega) (by omega) ?_
  refine x_aload_s dL_law_670 rfl ?_
  refine x_iload_n dL_law_671 rfl ?_
  refine x_iconst dL_law_672 ?_
  refine x_iadd dL_law_673 ?_
  refine x_sldI (6 * j + 5) dL_law_674 (by omega) (by omega) (by omega) ?_
  refine x_calliV dL_law_675 mk_X5_mayBe ml_L_86 hc1 hr0 rfl (fun x1 w1 q1 => ?_)
  obtain ⟨⟨fs1, hr1⟩, R2, hc2, hn2⟩ := hn1 x1 w1 q1
  refine x_aload_n dL_law_678 rfl ?_
  refine x_aload_s dL_law_679 rfl ?_
  refine x_iload_n dL_law_680 rfl ?_
  refine x_iconst dL_law_681 ?_
  refine x_iadd dL_law_682 ?_
  refine x_sldI (6 * j + 1) dL_law_683 (by omega) (by omega) (by omega) ?_
  refine x_aload_s dL_law_684 rfl ?_
  refine x_iload_n dL_law_685 rfl ?_
  refine x_iconst dL_law_686 ?_
  refine x_iadd dL_law_687 ?_
  refine x_sldI (6 * j + 2) dL_law_688 (by omega) (by omega) (by omega) ?_
  refine x_aload_s dL_law_689 rfl ?_
  refine x_iload_n dL_law_690 rfl ?_
  refine x_iconst dL_law_691 ?_
  refine x_iadd dL_law_692 ?_
  refine x_sldI (6 * j + 3) dL_law_693 (by omega) (by omega) (by omega) ?_
  refine x_aload_s dL_law_694 rfl ?_
  refine x_iload_n dL_law_695 rfl ?_
  refine x_iconst dL_law_696 ?_
  refine x_iadd dL_law_697 ?_
  refine x_sldI (6 * j + 4) dL_law_698 (by omega) (by omega) (by omega) ?_
  refine x_aload_s dL_law_699 rfl ?_
  refine x_iload_n dL_law_700 rfl ?_
  refine x_iconst dL_law_701 ?_
  refine x_iadd dL_law_702 ?_
  refine x_sldI (6 * j + 5) dL_law_703 (by omega) (by omega) (by omega) ?_
  refine x_calliV dL_law_704 mk_X6_mayBe ml_L_89 hc2 hr1 rfl (fun x2 w2 q2 => ?_)
  obtain ⟨rfl, hI2⟩ := hn2 x2 w2 q2
  refine x_icmp_sm 933 dL_law_707 ?_
  exact kk _ hI2
set_option maxRecDepth 100000 in
set_option maxHeartbeats 4000000 in
theorem law_c18 {Z : Zt} {L : Nat} {xs : Nat → Int32} (hL : L ≤ 3072) (j : Nat) (hj : 6 * j + 6 ≤ L) (c : Int) (w : AW) (h0 : 0 ≤ c) (h1 : c ≤ 30000) (hI : LI c w) (kk : ∀ w', LI (c + 41) w' → lwE Z L xs 933 j w') : lwE Z L xs 712 j w := by
  obtain ⟨⟨fs0, hr0⟩, -⟩ := LI_0 hI
  obtain ⟨R1, hc1, hn1⟩ := two_type ((iI (xs (6 * j + 1)).toInt).toInt64 <<< ((iI 32).toInt64 &&& 63) ||| ((iI (xs (6 * j + 2)).toInt).toInt64 &&& lI 4294967295)) (xs (6 * j + 3)).toInt (iI_R _) c w h0 h1 hI
  refine x_aload_n dL_law_712 rfl ?_
  refine x_aload_s dL_law_713 rfl ?_
  refine x_iload_n dL_law_714 rfl ?_
  refine x_iconst dL_law_715 ?_
  refine x_iadd dL_law_716 ?_
  refine x_sldI (6 * j + 1) dL_law_717 (by omega) (by omega) (by omega) ?_
  refine x_i2lr dL_law_718 ?_
  refine x_bipush dL_law_719 ?_
  refine x_lshl dL_law_721 ?_
  refine x_aload_s dL_law_722 rfl ?_
  refine x_iload_n dL_law_723 rfl ?_
  refine x_iconst dL_law_724 ?_
  refine x_iadd dL_law_725 ?_
  refine x_sldI (6 * j + 2) dL_law_726 (by omega) (by omega) (by omega) ?_
  refine x_i2lr dL_law_727 ?_
  refine x_ldc2 dL_law_728 kl_L_90 ?_
  refine x_land dL_law_731 ?_
  refine x_lor dL_law_732 ?_
  refine x_aload_s dL_law_733 rfl ?_
  refine x_iload_n dL_law_734 rfl ?_
  refine x_iconst dL_law_735 ?_
  refine x_iadd dL_law_736 ?_
  refine x_sldI (6 * j + 3) dL_law_737 (by omega) (by omega) (by omega) ?_
  refine x_calliV dL_law_738 mk_X5_type ml_L_92 hc1 hr0 rfl (fun x1 w1 q1 => ?_)
  obtain ⟨⟨fs1, hr1⟩, R2, hc2, hn2⟩ := hn1 x1 w1 q1
  refine x_aload_n dL_law_741 rfl ?_
  refine x_aload_s dL_law_742 rfl ?_
  refine x_iload_n dL_law_743 rfl ?_
  refine x_iconst dL_law_744 ?_
  refine x_iadd dL_law_745 ?_
  refine x_sldI (6 * j + 1) dL_law_746 (by omega) (by omega) (by omega) ?_
  refine x_i2lr dL_law_747 ?_
  refine x_bipush dL_law_748 ?_
  refine x_lshl dL_law_750 ?_
  refine x_aload_s dL_law_751 rfl ?_
  refine x_iload_n dL_law_752 rfl ?_
  refine x_iconst dL_law_753 ?_
  refine x_iadd dL_law_754 ?_
  refine x_sldI (6 * j + 2) dL_law_755 (by omega) (by omega) (by omega) ?_
  refine x_i2lr dL_law_756 ?_
  refine x_ldc2 dL_law_757 kl_L_90 ?_
  refine x_land dL_law_760 ?_
  refine x_lor dL_law_761 ?_
  refine x_aload_s dL_law_762 rfl ?_
  refine x_iload_n dL_law_763 rfl ?_
  refine x_iconst dL_law_764 ?_
  refine x_iadd dL_law_765 ?_
  refine x_sldI (6 * j + 3) dL_law_766 (by omega) (by omega) (by omega) ?_
  refine x_calliV dL_law_767 mk_X6_type ml_L_96 hc2 hr1 rfl (fun x2 w2 q2 => ?_)
  obtain ⟨rfl, hI2⟩ := hn2 x2 w2 q2
  refine x_icmp_sm 933 dL_law_770 ?_
  exact kk _ hI2
set_option maxRecDepth 100000 in
set_option maxHeartbeats 4000000 in
theorem law_c19 {Z : Zt} {L : Nat} {xs : Nat → Int32} (hL : L ≤ 3072) (j : Nat) (hj : 6 * j + 6 ≤ L) (c : Int) (w : AW) (h0 : 0 ≤ c) (h1 : c ≤ 30000) (hI : LI c w) (kk : ∀ w', LI (c + 41) w' → lwE Z L xs 933 j w') : lwE Z L xs 775 j w := by
  obtain ⟨⟨fs0, hr0⟩, -⟩ := LI_0 hI
  obtain ⟨R1, hc1, hn1⟩ := two_evening   c w h0 h1 hI
  refine x_aload_n dL_law_775 rfl ?_
  refine x_calliV dL_law_776 mk_X5_evening ml_L_97 hc1 hr0 rfl (fun x1 w1 q1 => ?_)
  obtain ⟨⟨fs1, hr1⟩, R2, hc2, hn2⟩ := hn1 x1 w1 q1
  refine x_aload_n dL_law_779 rfl ?_
  refine x_calliV dL_law_780 mk_X6_evening ml_L_100 hc2 hr1 rfl (fun x2 w2 q2 => ?_)
  obtain ⟨rfl, hI2⟩ := hn2 x2 w2 q2
  refine x_icmp_sm 933 dL_law_783 ?_
  exact kk _ hI2
set_option maxRecDepth 100000 in
set_option maxHeartbeats 4000000 in
theorem law_c20 {Z : Zt} {L : Nat} {xs : Nat → Int32} (hL : L ≤ 3072) (j : Nat) (hj : 6 * j + 6 ≤ L) (c : Int) (w : AW) (h0 : 0 ≤ c) (h1 : c ≤ 30000) (hI : LI c w) (kk : ∀ w', LI (c + 41) w' → lwE Z L xs 933 j w') : lwE Z L xs 788 j w := by
  obtain ⟨⟨fs0, hr0⟩, -⟩ := LI_0 hI
  obtain ⟨R1, hc1, hn1⟩ := two_image   c w h0 h1 hI
  refine x_aload_n dL_law_788 rfl ?_
  refine x_calliV dL_law_789 mk_X5_image ml_L_101 hc1 hr0 rfl (fun x1 w1 q1 => ?_)
  obtain ⟨⟨fs1, hr1⟩, R2, hc2, hn2⟩ := hn1 x1 w1 q1
  refine x_aload_n dL_law_792 rfl ?_
  refine x_calliV dL_law_793 mk_X6_image ml_L_104 hc2 hr1 rfl (fun x2 w2 q2 => ?_)
  obtain ⟨rfl, hI2⟩ := hn2 x2 w2 q2
  refine x_icmp_sm 933 dL_law_796 ?_
  exact kk _ hI2
set_option maxRecDepth 100000 in
set_option maxHeartbeats 4000000 in
theorem law_c21 {Z : Zt} {L : Nat} {xs : Nat → Int32} (hL : L ≤ 3072) (j : Nat) (hj : 6 * j + 6 ≤ L) (c : Int) (w : AW) (h0 : 0 ≤ c) (h1 : c ≤ 30000) (hI : LI c w) (kk : ∀ w', LI (c + 41) w' → lwE Z L xs 933 j w') : lwE Z L xs 801 j w := by
  obtain ⟨⟨fs0, hr0⟩, -⟩ := LI_0 hI
  obtain ⟨R1, hc1, hn1⟩ := two_restore   c w h0 h1 hI
  refine x_aload_n dL_law_801 rfl ?_
  refine x_calliV dL_law_802 mk_X5_restore ml_L_105 hc1 hr0 rfl (fun x1 w1 q1 => ?_)
  obtain ⟨⟨fs1, hr1⟩, R2, hc2, hn2⟩ := hn1 x1 w1 q1
  refine x_aload_n dL_law_805 rfl ?_
  refine x_calliV dL_law_806 mk_X6_restore ml_L_108 hc2 hr1 rfl (fun x2 w2 q2 => ?_)
  obtain ⟨rfl, hI2⟩ := hn2 x2 w2 q2
  refine x_icmp_sm 933 dL_law_809 ?_
  exact kk _ hI2
set_option maxRecDepth 100000 in
set_option maxHeartbeats 4000000 in
theorem law_c22 {Z : Zt} {L : Nat} {xs : Nat → Int32} (hL : L ≤ 3072) (j : Nat) (hj : 6 * j + 6 ≤ L) (c : Int) (w : AW) (h0 : 0 ≤ c) (h1 : c ≤ 30000) (hI : LI c w) (kk : ∀ w', LI (c + 41) w' → lwE Z L xs 933 j w') : lwE Z L xs 814 j w := by
  obtain ⟨⟨fs0, hr0⟩, -⟩ := LI_0 hI
  obtain ⟨R1, hc1, hn1⟩ := two_sheet (xs (6 * j + 1)).toInt (xs (6 * j + 2)).toInt (xs (6 * j + 3)).toInt (iI_R _) (iI_R _) (iI_R _) c w h0 h1 hI
  refine x_aload_n dL_law_814 rfl ?_
  refine x_aload_s dL_law_815 rfl ?_
  refine x_iload_n dL_law_816 rfl ?_
  refine x_iconst dL_law_817 ?_
  refine x_iadd dL_law_818 ?_
  refine x_sldI (6 * j + 1) dL_law_819 (by omega) (by omega) (by omega) ?_
  refine x_aload_s dL_law_820 rfl ?_
  refine x_iload_n dL_law_821 rfl ?_
  refine x_iconst dL_law_822 ?_
  refine x_iadd dL_law_823 ?_
  refine x_sldI (6 * j + 2) dL_law_824 (by omega) (by omega) (by omega) ?_
  refine x_aload_s dL_law_825 rfl ?_
  refine x_iload_n dL_law_826 rfl ?_
  refine x_iconst dL_law_827 ?_
  refine x_iadd dL_law_828 ?_
  refine x_sldI (6 * j + 3) dL_law_829 (by omega) (by omega) (by omega) ?_
  refine x_calliV dL_law_830 mk_X5_sheet ml_L_109 hc1 hr0 rfl (fun x1 w1 q1 => ?_)
  obtain ⟨⟨fs1, hr1⟩, R2, hc2, hn2⟩ := hn1 x1 w1 q1
  refine x_aload_n dL_law_833 rfl ?_
  refine x_aload_s dL_law_834 rfl ?_
  refine x_iload_n dL_law_835 rfl ?_
  refine x_iconst dL_law_836 ?_
  refine x_iadd dL_law_837 ?_
  refine x_sldI (6 * j + 1) dL_law_838 (by omega) (by omega) (by omega) ?_
  refine x_aload_s dL_law_839 rfl ?_
  refine x_iload_n dL_law_840 rfl ?_
  refine x_iconst dL_law_841 ?_
  refine x_iadd dL_law_842 ?_
  refine x_sldI (6 * j + 2) dL_law_843 (by omega) (by omega) (by omega) ?_
  refine x_aload_s dL_law_844 rfl ?_
  refine x_iload_n dL_law_845 rfl ?_
  refine x_iconst dL_law_846 ?_
  refine x_iadd dL_law_847 ?_
  refine x_sldI (6 * j + 3) dL_law_848 (by omega) (by omega) (by omega) ?_
  refine x_calliV dL_law_849 mk_X6_sheet ml_L_112 hc2 hr1 rfl (fun x2 w2 q2 => ?_)
  obtain ⟨rfl, hI2⟩ := hn2 x2 w2 q2
  refine x_icmp_sm 933 dL_law_852 ?_
  exact kk _ hI2
set_option maxRecDepth 100000 in
set_option maxHeartbeats 4000000 in
theorem law_c23 {Z : Zt} {L : Nat} {xs : Nat → Int32} (hL : L ≤ 3072) (j : Nat) (hj : 6 * j + 6 ≤ L) (c : Int) (w : AW) (h0 : 0 ≤ c) (h1 : c ≤ 30000) (hI : LI c w) (kk : ∀ w', LI (c + 41) w' → lwE Z L xs 933 j w') : lwE Z L xs 857 j w := by
  obtain ⟨⟨fs0, hr0⟩, -⟩ := LI_0 hI
  obtain ⟨R1, hc1, hn1⟩ := two_drop (xs (6 * j + 1)).toInt (iI_R _) c w h0 h1 hI
  refine x_aload_n dL_law_857 rfl ?_
  refine x_aload_s dL_law_858 rfl ?_
  refine x_iload_n dL_law_859 rfl ?_
  refine x_iconst dL_law_860 ?_
  refine x_iadd dL_law_861 ?_
  refine x_sldI (6 * j + 1) dL_law_862 (by omega) (by omega) (by omega) ?_
  refine x_calliV dL_law_863 mk_X5_drop ml_L_113 hc1 hr0 rfl (fun x1 w1 q1 => ?_)
  obtain ⟨⟨fs1, hr1⟩, R2, hc2, hn2⟩ := hn1 x1 w1 q1
  refine x_aload_n dL_law_866 rfl ?_
  refine x_aload_s dL_law_867 rfl ?_
  refine x_iload_n dL_law_868 rfl ?_
  refine x_iconst dL_law_869 ?_
  refine x_iadd dL_law_870 ?_
  refine x_sldI (6 * j + 1) dL_law_871 (by omega) (by omega) (by omega) ?_
  refine x_calliV dL_law_872 mk_X6_drop ml_L_116 hc2 hr1 rfl (fun x2 w2 q2 => ?_)
  obtain ⟨rfl, hI2⟩ := hn2 x2 w2 q2
  refine x_icmp_sm 933 dL_law_875 ?_
  exact kk _ hI2
set_option maxRecDepth 100000 in
set_option maxHeartbeats 4000000 in
theorem law_c24 {Z : Zt} {L : Nat} {xs : Nat → Int32} (hL : L ≤ 3072) (j : Nat) (hj : 6 * j + 6 ≤ L) (c : Int) (w : AW) (h0 : 0 ≤ c) (h1 : c ≤ 30000) (hI : LI c w) (kk : ∀ w', LI (c + 41) w' → lwE Z L xs 933 j w') : lwE Z L xs 880 j w := by
  obtain ⟨⟨fs0, hr0⟩, -⟩ := LI_0 hI
  obtain ⟨R1, hc1, hn1⟩ := two_item (xs (6 * j + 1)).toInt (xs (6 * j + 2)).toInt (xs (6 * j + 3)).toInt (xs (6 * j + 4)).toInt (iI_R _) (iI_R _) (iI_R _) (iI_R _) c w h0 h1 hI
  refine x_aload_n dL_law_880 rfl ?_
  refine x_aload_s dL_law_881 rfl ?_
  refine x_iload_n dL_law_882 rfl ?_
  refine x_iconst dL_law_883 ?_
  refine x_iadd dL_law_884 ?_
  refine x_sldI (6 * j + 1) dL_law_885 (by omega) (by omega) (by omega) ?_
  refine x_aload_s dL_law_886 rfl ?_
  refine x_iload_n dL_law_887 rfl ?_
  refine x_iconst dL_law_888 ?_
  refine x_iadd dL_law_889 ?_
  refine x_sldI (6 * j + 2) dL_law_890 (by omega) (by omega) (by omega) ?_
  refine x_aload_s dL_law_891 rfl ?_
  refine x_iload_n dL_law_892 rfl ?_
  refine x_iconst dL_law_893 ?_
  refine x_iadd dL_law_894 ?_
  refine x_sldI (6 * j + 3) dL_law_895 (by omega) (by omega) (by omega) ?_
  refine x_aload_s dL_law_896 rfl ?_
  refine x_iload_n dL_law_897 rfl ?_
  refine x_iconst dL_law_898 ?_
  refine x_iadd dL_law_899 ?_
  refine x_sldI (6 * j + 4) dL_law_900 (by omega) (by omega) (by omega) ?_
  refine x_calliV dL_law_901 mk_X5_item ml_L_117 hc1 hr0 rfl (fun x1 w1 q1 => ?_)
  obtain ⟨⟨fs1, hr1⟩, R2, hc2, hn2⟩ := hn1 x1 w1 q1
  refine x_aload_n dL_law_904 rfl ?_
  refine x_aload_s dL_law_905 rfl ?_
  refine x_iload_n dL_law_906 rfl ?_
  refine x_iconst dL_law_907 ?_
  refine x_iadd dL_law_908 ?_
  refine x_sldI (6 * j + 1) dL_law_909 (by omega) (by omega) (by omega) ?_
  refine x_aload_s dL_law_910 rfl ?_
  refine x_iload_n dL_law_911 rfl ?_
  refine x_iconst dL_law_912 ?_
  refine x_iadd dL_law_913 ?_
  refine x_sldI (6 * j + 2) dL_law_914 (by omega) (by omega) (by omega) ?_
  refine x_aload_s dL_law_915 rfl ?_
  refine x_iload_n dL_law_916 rfl ?_
  refine x_iconst dL_law_917 ?_
  refine x_iadd dL_law_918 ?_
  refine x_sldI (6 * j + 3) dL_law_919 (by omega) (by omega) (by omega) ?_
  refine x_aload_s dL_law_920 rfl ?_
  refine x_iload_n dL_law_921 rfl ?_
  refine x_iconst dL_law_922 ?_
  refine x_iadd dL_law_923 ?_
  refine x_sldI (6 * j + 4) dL_law_924 (by omega) (by omega) (by omega) ?_
  refine x_calliV dL_law_925 mk_X6_item ml_L_121 hc2 hr1 rfl (fun x2 w2 q2 => ?_)
  obtain ⟨rfl, hI2⟩ := hn2 x2 w2 q2
  refine x_icmp_sm 933 dL_law_928 ?_
  exact kk _ hI2
