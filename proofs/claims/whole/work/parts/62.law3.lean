/-! the law's cases, the walks: printed by wip/whole/law2.py -/
set_option maxHeartbeats 4000000 in
set_option maxRecDepth 100000 in
/-- the law's case 0 -/
theorem lc_setSite {X : JX} {G : JG} {Q : State → Prop} (hC : JCL X G) {b L : Nat} {zs : Nat → Int32} (hX : Scr X G b L zs) {x y o i : Nat} {σ : Sg} {S : HS} (hi : i + 6 ≤ L) (hL : L ≤ 3072) (hI : LIv G x y o σ S) {cs ss : Nat} (h1 : cs + 370 ≤ room_1.cells) (h2 : ss + 3800 ≤ room_1.slots) (kk : ∀ (σ' : Sg) (T : HS), LIv G x y o σ' T → J X G Q 9 (cs + 370) (ss + 3800) 1509 [(4, .int (nI i)), (3, .ref o), (2, .ref y), (1, .ref x), (0, .ref b)] [] T) : J X G Q 9 cs ss 152 [(4, .int (nI i)), (3, .ref o), (2, .ref y), (1, .ref x), (0, .ref b)] [] S := by
  obtain ⟨hA, ⟨B, hB⟩, ho, hn⟩ := hI
  have n20 : vn σ ≤ 20 := hB.2.2.1.2.2.2.2.2.2.2.1
  refine J_aload_n 3 hC dL_law_152 rfl rfl ?_
  refine J_aload_n 4 hC dL_law_153 rfl rfl ?_
  refine J_iload 0 hC dL_law_154 rfl ?_
  refine J_iconst (v := 1) hC dL_law_156 (by decide) ?_
  refine J_iadd hC dL_law_157 ?_
  refine J_sld hC hX (sc_in (c := 1) hi hL (by decide)) dL_law_158 ?_
  refine J_aload_n 4 hC dL_law_159 rfl rfl ?_
  refine J_iload 0 hC dL_law_160 rfl ?_
  refine J_iconst (v := 2) hC dL_law_162 (by decide) ?_
  refine J_iadd hC dL_law_163 ?_
  refine J_sld hC hX (sc_in (c := 2) hi hL (by decide)) dL_law_164 ?_
  refine J_aload_n 1 hC dL_law_165 rfl rfl ?_
  refine cl_L_83 hC (w_setSite S x o σ hA ho hn _ _) (Nat.le_of_ble_eq_true rfl) ⟨⟨Nat.le_of_ble_eq_true rfl, Nat.le_of_ble_eq_true rfl⟩, by omega, by omega⟩ dL_law_166 (fun k T e => ?_)
  obtain ⟨v, σ1, hP, hA1, hf, ko, no, hv⟩ := e
  refine J_istore (lv' := [(5, _), (4, _), (3, _), (2, _), (1, _), (0, _)]) hC dL_law_169 (by decide) rfl ?_
  refine J_aload_n 3 hC dL_law_171 rfl rfl ?_
  refine J_aload_n 5 hC dL_law_172 rfl rfl ?_
  refine J_iload 1 hC dL_law_173 rfl ?_
  refine J_iconst (v := 1) hC dL_law_175 (by decide) ?_
  refine J_iadd hC dL_law_176 ?_
  refine J_sld hC hX (sc_in (c := 1) hi hL (by decide)) dL_law_177 ?_
  refine J_aload_n 5 hC dL_law_178 rfl rfl ?_
  refine J_iload 1 hC dL_law_179 rfl ?_
  refine J_iconst (v := 2) hC dL_law_181 (by decide) ?_
  refine J_iadd hC dL_law_182 ?_
  refine J_sld hC hX (sc_in (c := 2) hi hL (by decide)) dL_law_183 ?_
  refine cl_L_88 hC (c_X6_setSite T y B σ (hf y B σ hB) _ _) (hf y B σ hB).1.ky (Nat.le_of_ble_eq_true rfl) ⟨⟨Nat.le_of_ble_eq_true rfl, Nat.le_of_ble_eq_true rfl⟩, by omega, by omega⟩ dL_law_184 (fun r U e2 => ?_)
  obtain ⟨mx, hr⟩ := co_setSite n20 hP e2
  refine J_istore (lv' := [(6, _), (5, _), (4, _), (3, _), (2, _), (1, _), (0, _)]) hC dL_law_187 (by decide) rfl ?_
  refine J_aload_n 4 hC dL_law_189 rfl rfl ?_
  refine cl_L_89 hC (c_X6_thrown U y mx.1.1.ky) mx.1.1.ky (Nat.le_of_ble_eq_true rfl) ⟨⟨Nat.le_of_ble_eq_true rfl, Nat.le_of_ble_eq_true rfl⟩, by omega, by omega⟩ dL_law_190 (fun r3 U3 e3 => ?_)
  obtain ⟨rfl, e3⟩ := e3
  subst U3
  refine J_topI mx.2.2 ?_
  refine J_iload 1 hC dL_law_193 rfl ?_
  refine J_icmp_eq 200 hC dL_law_195 (by decide) (fun c195 => ?_) (fun c195 => absurd rfl c195)
  refine J_iload 1 hC dL_law_200 rfl ?_
  refine J_if_ne 217 hC dL_law_202 (by decide) (fun c202 => ?_) (fun c202 => ?_)
  · refine J_goto 1509 hC dL_law_217 (by decide) ?_
    refine J_wd (cs' := cs + 370) (ss' := ss + 3800) (by omega) (by omega) ?_
    exact J_re [2, 3, 4, 5, 6] rfl (kk σ1 U (LIv.both hA1 ko no mx))
  · refine J_aload_n 3 hC dL_law_205 rfl rfl ?_
    refine J_iconst (v := 0) hC dL_law_206 (by decide) ?_
    refine J_lald hC (CSo mx ko) (inN (CSn mx ko no) (vp_in_nI (show 0 < 1 by decide) (by decide))) dL_law_207 ?_
    have k0 : k = 0 := c202
    refine J_topL (mx.hL ko (hv k0)) ?_
    refine J_iload 0 hC dL_law_208 rfl ?_
    refine J_i2l hC dL_law_210 ?_
    refine J_lcmp hC dL_law_211 ?_
    refine J_topI (show lg_cmp _ _ = 0 by rw [hr k0]; exact lg_cmp_same _) ?_
    refine J_if_eq 217 hC dL_law_212 (by decide) (fun c212 => ?_) (fun c212 => absurd rfl c212)
    refine J_goto 1509 hC dL_law_217 (by decide) ?_
    refine J_wd (cs' := cs + 370) (ss' := ss + 3800) (by omega) (by omega) ?_
    exact J_re [2, 3, 4, 5, 6] rfl (kk σ1 U (LIv.both hA1 ko no mx))

set_option maxHeartbeats 4000000 in
set_option maxRecDepth 100000 in
/-- the law's case 1 -/
theorem lc_setLength {X : JX} {G : JG} {Q : State → Prop} (hC : JCL X G) {b L : Nat} {zs : Nat → Int32} (hX : Scr X G b L zs) {x y o i : Nat} {σ : Sg} {S : HS} (hi : i + 6 ≤ L) (hL : L ≤ 3072) (hI : LIv G x y o σ S) {cs ss : Nat} (h1 : cs + 370 ≤ room_1.cells) (h2 : ss + 3800 ≤ room_1.slots) (kk : ∀ (σ' : Sg) (T : HS), LIv G x y o σ' T → J X G Q 9 (cs + 370) (ss + 3800) 1509 [(4, .int (nI i)), (3, .ref o), (2, .ref y), (1, .ref x), (0, .ref b)] [] T) : J X G Q 9 cs ss 220 [(4, .int (nI i)), (3, .ref o), (2, .ref y), (1, .ref x), (0, .ref b)] [] S := by
  obtain ⟨hA, ⟨B, hB⟩, ho, hn⟩ := hI
  have n20 : vn σ ≤ 20 := hB.2.2.1.2.2.2.2.2.2.2.1
  refine J_aload_n 3 hC dL_law_220 rfl rfl ?_
  refine J_aload_n 4 hC dL_law_221 rfl rfl ?_
  refine J_iload 0 hC dL_law_222 rfl ?_
  refine J_iconst (v := 1) hC dL_law_224 (by decide) ?_
  refine J_iadd hC dL_law_225 ?_
  refine J_sld hC hX (sc_in (c := 1) hi hL (by decide)) dL_law_226 ?_
  refine J_aload_n 1 hC dL_law_227 rfl rfl ?_
  refine cl_L_92 hC (w_setLength S x o σ hA ho hn _) (Nat.le_of_ble_eq_true rfl) ⟨⟨Nat.le_of_ble_eq_true rfl, Nat.le_of_ble_eq_true rfl⟩, by omega, by omega⟩ dL_law_228 (fun k T e => ?_)
  obtain ⟨v, σ1, hP, hA1, hf, ko, no, hv⟩ := e
  refine J_istore (lv' := [(5, _), (4, _), (3, _), (2, _), (1, _), (0, _)]) hC dL_law_231 (by decide) rfl ?_
  refine J_aload_n 3 hC dL_law_233 rfl rfl ?_
  refine J_aload_n 5 hC dL_law_234 rfl rfl ?_
  refine J_iload 1 hC dL_law_235 rfl ?_
  refine J_iconst (v := 1) hC dL_law_237 (by decide) ?_
  refine J_iadd hC dL_law_238 ?_
  refine J_sld hC hX (sc_in (c := 1) hi hL (by decide)) dL_law_239 ?_
  refine cl_L_95 hC (c_X6_setLength T y B σ (hf y B σ hB) _) (hf y B σ hB).1.ky (Nat.le_of_ble_eq_true rfl) ⟨⟨Nat.le_of_ble_eq_true rfl, Nat.le_of_ble_eq_true rfl⟩, by omega, by omega⟩ dL_law_240 (fun r U e2 => ?_)
  obtain ⟨mx, hr⟩ := co_setLength n20 hP e2
  refine J_istore (lv' := [(6, _), (5, _), (4, _), (3, _), (2, _), (1, _), (0, _)]) hC dL_law_243 (by decide) rfl ?_
  refine J_aload_n 4 hC dL_law_245 rfl rfl ?_
  refine cl_L_89 hC (c_X6_thrown U y mx.1.1.ky) mx.1.1.ky (Nat.le_of_ble_eq_true rfl) ⟨⟨Nat.le_of_ble_eq_true rfl, Nat.le_of_ble_eq_true rfl⟩, by omega, by omega⟩ dL_law_246 (fun r3 U3 e3 => ?_)
  obtain ⟨rfl, e3⟩ := e3
  subst U3
  refine J_topI mx.2.2 ?_
  refine J_iload 1 hC dL_law_249 rfl ?_
  refine J_icmp_eq 256 hC dL_law_251 (by decide) (fun c251 => ?_) (fun c251 => absurd rfl c251)
  refine J_iload 1 hC dL_law_256 rfl ?_
  refine J_if_ne 273 hC dL_law_258 (by decide) (fun c258 => ?_) (fun c258 => ?_)
  · refine J_goto 1509 hC dL_law_273 (by decide) ?_
    refine J_wd (cs' := cs + 370) (ss' := ss + 3800) (by omega) (by omega) ?_
    exact J_re [2, 3, 4, 5, 6] rfl (kk σ1 U (LIv.both hA1 ko no mx))
  · refine J_aload_n 3 hC dL_law_261 rfl rfl ?_
    refine J_iconst (v := 0) hC dL_law_262 (by decide) ?_
    refine J_lald hC (CSo mx ko) (inN (CSn mx ko no) (vp_in_nI (show 0 < 1 by decide) (by decide))) dL_law_263 ?_
    have k0 : k = 0 := c258
    refine J_topL (mx.hL ko (hv k0)) ?_
    refine J_iload 0 hC dL_law_264 rfl ?_
    refine J_i2l hC dL_law_266 ?_
    refine J_lcmp hC dL_law_267 ?_
    refine J_topI (show lg_cmp _ _ = 0 by rw [hr k0]; exact lg_cmp_same _) ?_
    refine J_if_eq 273 hC dL_law_268 (by decide) (fun c268 => ?_) (fun c268 => absurd rfl c268)
    refine J_goto 1509 hC dL_law_273 (by decide) ?_
    refine J_wd (cs' := cs + 370) (ss' := ss + 3800) (by omega) (by omega) ?_
    exact J_re [2, 3, 4, 5, 6] rfl (kk σ1 U (LIv.both hA1 ko no mx))

set_option maxHeartbeats 4000000 in
set_option maxRecDepth 100000 in
/-- the law's case 2 -/
theorem lc_setMoon {X : JX} {G : JG} {Q : State → Prop} (hC : JCL X G) {b L : Nat} {zs : Nat → Int32} (hX : Scr X G b L zs) {x y o i : Nat} {σ : Sg} {S : HS} (hi : i + 6 ≤ L) (hL : L ≤ 3072) (hI : LIv G x y o σ S) {cs ss : Nat} (h1 : cs + 370 ≤ room_1.cells) (h2 : ss + 3800 ≤ room_1.slots) (kk : ∀ (σ' : Sg) (T : HS), LIv G x y o σ' T → J X G Q 9 (cs + 370) (ss + 3800) 1509 [(4, .int (nI i)), (3, .ref o), (2, .ref y), (1, .ref x), (0, .ref b)] [] T) : J X G Q 9 cs ss 276 [(4, .int (nI i)), (3, .ref o), (2, .ref y), (1, .ref x), (0, .ref b)] [] S := by
  obtain ⟨hA, ⟨B, hB⟩, ho, hn⟩ := hI
  have n20 : vn σ ≤ 20 := hB.2.2.1.2.2.2.2.2.2.2.1
  refine J_aload_n 3 hC dL_law_276 rfl rfl ?_
  refine J_aload_n 4 hC dL_law_277 rfl rfl ?_
  refine J_iload 0 hC dL_law_278 rfl ?_
  refine J_iconst (v := 1) hC dL_law_280 (by decide) ?_
  refine J_iadd hC dL_law_281 ?_
  refine J_sld hC hX (sc_in (c := 1) hi hL (by decide)) dL_law_282 ?_
  refine J_aload_n 4 hC dL_law_283 rfl rfl ?_
  refine J_iload 0 hC dL_law_284 rfl ?_
  refine J_iconst (v := 2) hC dL_law_286 (by decide) ?_
  refine J_iadd hC dL_law_287 ?_
  refine J_sld hC hX (sc_in (c := 2) hi hL (by decide)) dL_law_288 ?_
  refine J_aload_n 4 hC dL_law_289 rfl rfl ?_
  refine J_iload 0 hC dL_law_290 rfl ?_
  refine J_iconst (v := 3) hC dL_law_292 (by decide) ?_
  refine J_iadd hC dL_law_293 ?_
  refine J_sld hC hX (sc_in (c := 3) hi hL (by decide)) dL_law_294 ?_
  refine J_aload_n 1 hC dL_law_295 rfl rfl ?_
  refine cl_L_96 hC (w_setMoon S x o σ hA ho hn _ _ _) (Nat.le_of_ble_eq_true rfl) ⟨⟨Nat.le_of_ble_eq_true rfl, Nat.le_of_ble_eq_true rfl⟩, by omega, by omega⟩ dL_law_296 (fun k T e => ?_)
  obtain ⟨v, σ1, hP, hA1, hf, ko, no, hv⟩ := e
  refine J_istore (lv' := [(5, _), (4, _), (3, _), (2, _), (1, _), (0, _)]) hC dL_law_299 (by decide) rfl ?_
  refine J_aload_n 3 hC dL_law_301 rfl rfl ?_
  refine J_aload_n 5 hC dL_law_302 rfl rfl ?_
  refine J_iload 1 hC dL_law_303 rfl ?_
  refine J_iconst (v := 1) hC dL_law_305 (by decide) ?_
  refine J_iadd hC dL_law_306 ?_
  refine J_sld hC hX (sc_in (c := 1) hi hL (by decide)) dL_law_307 ?_
  refine J_aload_n 5 hC dL_law_308 rfl rfl ?_
  refine J_iload 1 hC dL_law_309 rfl ?_
  refine J_iconst (v := 2) hC dL_law_311 (by decide) ?_
  refine J_iadd hC dL_law_312 ?_
  refine J_sld hC hX (sc_in (c := 2) hi hL (by decide)) dL_law_313 ?_
  refine J_aload_n 5 hC dL_law_314 rfl rfl ?_
  refine J_iload 1 hC dL_law_315 rfl ?_
  refine J_iconst (v := 3) hC dL_law_317 (by decide) ?_
  refine J_iadd hC dL_law_318 ?_
  refine J_sld hC hX (sc_in (c := 3) hi hL (by decide)) dL_law_319 ?_
  refine cl_L_99 hC (c_X6_setMoon T y B σ (hf y B σ hB) _ _ _) (hf y B σ hB).1.ky (Nat.le_of_ble_eq_true rfl) ⟨⟨Nat.le_of_ble_eq_true rfl, Nat.le_of_ble_eq_true rfl⟩, by omega, by omega⟩ dL_law_320 (fun r U e2 => ?_)
  obtain ⟨mx, hr⟩ := co_setMoon n20 hP e2
  refine J_istore (lv' := [(6, _), (5, _), (4, _), (3, _), (2, _), (1, _), (0, _)]) hC dL_law_323 (by decide) rfl ?_
  refine J_aload_n 4 hC dL_law_325 rfl rfl ?_
  refine cl_L_89 hC (c_X6_thrown U y mx.1.1.ky) mx.1.1.ky (Nat.le_of_ble_eq_true rfl) ⟨⟨Nat.le_of_ble_eq_true rfl, Nat.le_of_ble_eq_true rfl⟩, by omega, by omega⟩ dL_law_326 (fun r3 U3 e3 => ?_)
  obtain ⟨rfl, e3⟩ := e3
  subst U3
  refine J_topI mx.2.2 ?_
  refine J_iload 1 hC dL_law_329 rfl ?_
  refine J_icmp_eq 336 hC dL_law_331 (by decide) (fun c331 => ?_) (fun c331 => absurd rfl c331)
  refine J_iload 1 hC dL_law_336 rfl ?_
  refine J_if_ne 353 hC dL_law_338 (by decide) (fun c338 => ?_) (fun c338 => ?_)
  · refine J_goto 1509 hC dL_law_353 (by decide) ?_
    refine J_wd (cs' := cs + 370) (ss' := ss + 3800) (by omega) (by omega) ?_
    exact J_re [2, 3, 4, 5, 6] rfl (kk σ1 U (LIv.both hA1 ko no mx))
  · refine J_aload_n 3 hC dL_law_341 rfl rfl ?_
    refine J_iconst (v := 0) hC dL_law_342 (by decide) ?_
    refine J_lald hC (CSo mx ko) (inN (CSn mx ko no) (vp_in_nI (show 0 < 1 by decide) (by decide))) dL_law_343 ?_
    have k0 : k = 0 := c338
    refine J_topL (mx.hL ko (hv k0)) ?_
    refine J_iload 0 hC dL_law_344 rfl ?_
    refine J_i2l hC dL_law_346 ?_
    refine J_lcmp hC dL_law_347 ?_
    refine J_topI (show lg_cmp _ _ = 0 by rw [hr k0]; exact lg_cmp_same _) ?_
    refine J_if_eq 353 hC dL_law_348 (by decide) (fun c348 => ?_) (fun c348 => absurd rfl c348)
    refine J_goto 1509 hC dL_law_353 (by decide) ?_
    refine J_wd (cs' := cs + 370) (ss' := ss + 3800) (by omega) (by omega) ?_
    exact J_re [2, 3, 4, 5, 6] rfl (kk σ1 U (LIv.both hA1 ko no mx))

set_option maxHeartbeats 4000000 in
set_option maxRecDepth 100000 in
/-- the law's case 3 -/
theorem lc_addClouds {X : JX} {G : JG} {Q : State → Prop} (hC : JCL X G) {b L : Nat} {zs : Nat → Int32} (hX : Scr X G b L zs) {x y o i : Nat} {σ : Sg} {S : HS} (hi : i + 6 ≤ L) (hL : L ≤ 3072) (hI : LIv G x y o σ S) {cs ss : Nat} (h1 : cs + 370 ≤ room_1.cells) (h2 : ss + 3800 ≤ room_1.slots) (kk : ∀ (σ' : Sg) (T : HS), LIv G x y o σ' T → J X G Q 9 (cs + 370) (ss + 3800) 1509 [(4, .int (nI i)), (3, .ref o), (2, .ref y), (1, .ref x), (0, .ref b)] [] T) : J X G Q 9 cs ss 356 [(4, .int (nI i)), (3, .ref o), (2, .ref y), (1, .ref x), (0, .ref b)] [] S := by
  obtain ⟨hA, ⟨B, hB⟩, ho, hn⟩ := hI
  have n20 : vn σ ≤ 20 := hB.2.2.1.2.2.2.2.2.2.2.1
  refine J_aload_n 3 hC dL_law_356 rfl rfl ?_
  refine J_aload_n 4 hC dL_law_357 rfl rfl ?_
  refine J_iload 0 hC dL_law_358 rfl ?_
  refine J_iconst (v := 1) hC dL_law_360 (by decide) ?_
  refine J_iadd hC dL_law_361 ?_
  refine J_sld hC hX (sc_in (c := 1) hi hL (by decide)) dL_law_362 ?_
  refine J_aload_n 4 hC dL_law_363 rfl rfl ?_
  refine J_iload 0 hC dL_law_364 rfl ?_
  refine J_iconst (v := 2) hC dL_law_366 (by decide) ?_
  refine J_iadd hC dL_law_367 ?_
  refine J_sld hC hX (sc_in (c := 2) hi hL (by decide)) dL_law_368 ?_
  refine J_aload_n 1 hC dL_law_369 rfl rfl ?_
  refine cl_L_100 hC (w_addClouds S x o σ hA ho hn _ _) (Nat.le_of_ble_eq_true rfl) ⟨⟨Nat.le_of_ble_eq_true rfl, Nat.le_of_ble_eq_true rfl⟩, by omega, by omega⟩ dL_law_370 (fun k T e => ?_)
  obtain ⟨v, σ1, hP, hA1, hf, ko, no, hv⟩ := e
  refine J_istore (lv' := [(5, _), (4, _), (3, _), (2, _), (1, _), (0, _)]) hC dL_law_373 (by decide) rfl ?_
  refine J_aload_n 3 hC dL_law_375 rfl rfl ?_
  refine J_aload_n 5 hC dL_law_376 rfl rfl ?_
  refine J_iload 1 hC dL_law_377 rfl ?_
  refine J_iconst (v := 1) hC dL_law_379 (by decide) ?_
  refine J_iadd hC dL_law_380 ?_
  refine J_sld hC hX (sc_in (c := 1) hi hL (by decide)) dL_law_381 ?_
  refine J_aload_n 5 hC dL_law_382 rfl rfl ?_
  refine J_iload 1 hC dL_law_383 rfl ?_
  refine J_iconst (v := 2) hC dL_law_385 (by decide) ?_
  refine J_iadd hC dL_law_386 ?_
  refine J_sld hC hX (sc_in (c := 2) hi hL (by decide)) dL_law_387 ?_
  refine cl_L_102 hC (c_X6_addClouds T y B σ (hf y B σ hB) _ _) (hf y B σ hB).1.ky (Nat.le_of_ble_eq_true rfl) ⟨⟨Nat.le_of_ble_eq_true rfl, Nat.le_of_ble_eq_true rfl⟩, by omega, by omega⟩ dL_law_388 (fun r U e2 => ?_)
  obtain ⟨mx, hr⟩ := co_addClouds n20 hP e2
  refine J_istore (lv' := [(6, _), (5, _), (4, _), (3, _), (2, _), (1, _), (0, _)]) hC dL_law_391 (by decide) rfl ?_
  refine J_aload_n 4 hC dL_law_393 rfl rfl ?_
  refine cl_L_89 hC (c_X6_thrown U y mx.1.1.ky) mx.1.1.ky (Nat.le_of_ble_eq_true rfl) ⟨⟨Nat.le_of_ble_eq_true rfl, Nat.le_of_ble_eq_true rfl⟩, by omega, by omega⟩ dL_law_394 (fun r3 U3 e3 => ?_)
  obtain ⟨rfl, e3⟩ := e3
  subst U3
  refine J_topI mx.2.2 ?_
  refine J_iload 1 hC dL_law_397 rfl ?_
  refine J_icmp_eq 404 hC dL_law_399 (by decide) (fun c399 => ?_) (fun c399 => absurd rfl c399)
  refine J_iload 1 hC dL_law_404 rfl ?_
  refine J_if_ne 421 hC dL_law_406 (by decide) (fun c406 => ?_) (fun c406 => ?_)
  · refine J_goto 1509 hC dL_law_421 (by decide) ?_
    refine J_wd (cs' := cs + 370) (ss' := ss + 3800) (by omega) (by omega) ?_
    exact J_re [2, 3, 4, 5, 6] rfl (kk σ1 U (LIv.both hA1 ko no mx))
  · refine J_aload_n 3 hC dL_law_409 rfl rfl ?_
    refine J_iconst (v := 0) hC dL_law_410 (by decide) ?_
    refine J_lald hC (CSo mx ko) (inN (CSn mx ko no) (vp_in_nI (show 0 < 1 by decide) (by decide))) dL_law_411 ?_
    have k0 : k = 0 := c406
    refine J_topL (mx.hL ko (hv k0)) ?_
    refine J_iload 0 hC dL_law_412 rfl ?_
    refine J_i2l hC dL_law_414 ?_
    refine J_lcmp hC dL_law_415 ?_
    refine J_topI (show lg_cmp _ _ = 0 by rw [hr k0]; exact lg_cmp_same _) ?_
    refine J_if_eq 421 hC dL_law_416 (by decide) (fun c416 => ?_) (fun c416 => absurd rfl c416)
    refine J_goto 1509 hC dL_law_421 (by decide) ?_
    refine J_wd (cs' := cs + 370) (ss' := ss + 3800) (by omega) (by omega) ?_
    exact J_re [2, 3, 4, 5, 6] rfl (kk σ1 U (LIv.both hA1 ko no mx))

set_option maxHeartbeats 4000000 in
set_option maxRecDepth 100000 in
/-- the law's case 4 -/
theorem lc_sine {X : JX} {G : JG} {Q : State → Prop} (hC : JCL X G) {b L : Nat} {zs : Nat → Int32} (hX : Scr X G b L zs) {x y o i : Nat} {σ : Sg} {S : HS} (hi : i + 6 ≤ L) (hL : L ≤ 3072) (hI : LIv G x y o σ S) {cs ss : Nat} (h1 : cs + 370 ≤ room_1.cells) (h2 : ss + 3800 ≤ room_1.slots) (kk : ∀ (σ' : Sg) (T : HS), LIv G x y o σ' T → J X G Q 9 (cs + 370) (ss + 3800) 1509 [(4, .int (nI i)), (3, .ref o), (2, .ref y), (1, .ref x), (0, .ref b)] [] T) : J X G Q 9 cs ss 424 [(4, .int (nI i)), (3, .ref o), (2, .ref y), (1, .ref x), (0, .ref b)] [] S := by
  obtain ⟨hA, ⟨B, hB⟩, ho, hn⟩ := hI
  have n20 : vn σ ≤ 20 := hB.2.2.1.2.2.2.2.2.2.2.1
  refine J_aload_n 3 hC dL_law_424 rfl rfl ?_
  refine J_aload_n 4 hC dL_law_425 rfl rfl ?_
  refine J_iload 0 hC dL_law_426 rfl ?_
  refine J_iconst (v := 1) hC dL_law_428 (by decide) ?_
  refine J_iadd hC dL_law_429 ?_
  refine J_sld hC hX (sc_in (c := 1) hi hL (by decide)) dL_law_430 ?_
  refine J_aload_n 1 hC dL_law_431 rfl rfl ?_
  refine cl_L_103 hC (w_sine S x o σ hA ho hn _) (Nat.le_of_ble_eq_true rfl) ⟨⟨Nat.le_of_ble_eq_true rfl, Nat.le_of_ble_eq_true rfl⟩, by omega, by omega⟩ dL_law_432 (fun k T e => ?_)
  obtain ⟨v, σ1, hP, hA1, hf, ko, no, hv⟩ := e
  refine J_istore (lv' := [(5, _), (4, _), (3, _), (2, _), (1, _), (0, _)]) hC dL_law_435 (by decide) rfl ?_
  refine J_aload_n 3 hC dL_law_437 rfl rfl ?_
  refine J_aload_n 5 hC dL_law_438 rfl rfl ?_
  refine J_iload 1 hC dL_law_439 rfl ?_
  refine J_iconst (v := 1) hC dL_law_441 (by decide) ?_
  refine J_iadd hC dL_law_442 ?_
  refine J_sld hC hX (sc_in (c := 1) hi hL (by decide)) dL_law_443 ?_
  refine cl_L_105 hC (c_X6_sine T y B σ (hf y B σ hB) _) (hf y B σ hB).1.ky (Nat.le_of_ble_eq_true rfl) ⟨⟨Nat.le_of_ble_eq_true rfl, Nat.le_of_ble_eq_true rfl⟩, by omega, by omega⟩ dL_law_444 (fun r U e2 => ?_)
  obtain ⟨mx, hr⟩ := co_sine n20 hP e2
  refine J_istore (lv' := [(6, _), (5, _), (4, _), (3, _), (2, _), (1, _), (0, _)]) hC dL_law_447 (by decide) rfl ?_
  refine J_aload_n 4 hC dL_law_449 rfl rfl ?_
  refine cl_L_89 hC (c_X6_thrown U y mx.1.1.ky) mx.1.1.ky (Nat.le_of_ble_eq_true rfl) ⟨⟨Nat.le_of_ble_eq_true rfl, Nat.le_of_ble_eq_true rfl⟩, by omega, by omega⟩ dL_law_450 (fun r3 U3 e3 => ?_)
  obtain ⟨rfl, e3⟩ := e3
  subst U3
  refine J_topI mx.2.2 ?_
  refine J_iload 1 hC dL_law_453 rfl ?_
  refine J_icmp_eq 460 hC dL_law_455 (by decide) (fun c455 => ?_) (fun c455 => absurd rfl c455)
  refine J_iload 1 hC dL_law_460 rfl ?_
  refine J_if_ne 477 hC dL_law_462 (by decide) (fun c462 => ?_) (fun c462 => ?_)
  · refine J_goto 1509 hC dL_law_477 (by decide) ?_
    refine J_wd (cs' := cs + 370) (ss' := ss + 3800) (by omega) (by omega) ?_
    exact J_re [2, 3, 4, 5, 6] rfl (kk σ1 U (LIv.both hA1 ko no mx))
  · refine J_aload_n 3 hC dL_law_465 rfl rfl ?_
    refine J_iconst (v := 0) hC dL_law_466 (by decide) ?_
    refine J_lald hC (CSo mx ko) (inN (CSn mx ko no) (vp_in_nI (show 0 < 1 by decide) (by decide))) dL_law_467 ?_
    have k0 : k = 0 := c462
    refine J_topL (mx.hL ko (hv k0)) ?_
    refine J_iload 0 hC dL_law_468 rfl ?_
    refine J_i2l hC dL_law_470 ?_
    refine J_lcmp hC dL_law_471 ?_
    refine J_topI (show lg_cmp _ _ = 0 by rw [hr k0]; exact lg_cmp_same _) ?_
    refine J_if_eq 477 hC dL_law_472 (by decide) (fun c472 => ?_) (fun c472 => absurd rfl c472)
    refine J_goto 1509 hC dL_law_477 (by decide) ?_
    refine J_wd (cs' := cs + 370) (ss' := ss + 3800) (by omega) (by omega) ?_
    exact J_re [2, 3, 4, 5, 6] rfl (kk σ1 U (LIv.both hA1 ko no mx))

set_option maxHeartbeats 4000000 in
set_option maxRecDepth 100000 in
/-- the law's case 5 -/
theorem lc_addTarget {X : JX} {G : JG} {Q : State → Prop} (hC : JCL X G) {b L : Nat} {zs : Nat → Int32} (hX : Scr X G b L zs) {x y o i : Nat} {σ : Sg} {S : HS} (hi : i + 6 ≤ L) (hL : L ≤ 3072) (hI : LIv G x y o σ S) {cs ss : Nat} (h1 : cs + 370 ≤ room_1.cells) (h2 : ss + 3800 ≤ room_1.slots) (kk : ∀ (σ' : Sg) (T : HS), LIv G x y o σ' T → J X G Q 9 (cs + 370) (ss + 3800) 1509 [(4, .int (nI i)), (3, .ref o), (2, .ref y), (1, .ref x), (0, .ref b)] [] T) : J X G Q 9 cs ss 480 [(4, .int (nI i)), (3, .ref o), (2, .ref y), (1, .ref x), (0, .ref b)] [] S := by
  obtain ⟨hA, ⟨B, hB⟩, ho, hn⟩ := hI
  have n20 : vn σ ≤ 20 := hB.2.2.1.2.2.2.2.2.2.2.1
  refine J_aload_n 3 hC dL_law_480 rfl rfl ?_
  refine J_aload_n 4 hC dL_law_481 rfl rfl ?_
  refine J_iload 0 hC dL_law_482 rfl ?_
  refine J_iconst (v := 1) hC dL_law_484 (by decide) ?_
  refine J_iadd hC dL_law_485 ?_
  refine J_sld hC hX (sc_in (c := 1) hi hL (by decide)) dL_law_486 ?_
  refine J_aload_n 4 hC dL_law_487 rfl rfl ?_
  refine J_iload 0 hC dL_law_488 rfl ?_
  refine J_iconst (v := 2) hC dL_law_490 (by decide) ?_
  refine J_iadd hC dL_law_491 ?_
  refine J_sld hC hX (sc_in (c := 2) hi hL (by decide)) dL_law_492 ?_
  refine J_aload_n 4 hC dL_law_493 rfl rfl ?_
  refine J_iload 0 hC dL_law_494 rfl ?_
  refine J_iconst (v := 3) hC dL_law_496 (by decide) ?_
  refine J_iadd hC dL_law_497 ?_
  refine J_sld hC hX (sc_in (c := 3) hi hL (by decide)) dL_law_498 ?_
  refine J_aload_n 4 hC dL_law_499 rfl rfl ?_
  refine J_iload 0 hC dL_law_500 rfl ?_
  refine J_iconst (v := 4) hC dL_law_502 (by decide) ?_
  refine J_iadd hC dL_law_503 ?_
  refine J_sld hC hX (sc_in (c := 4) hi hL (by decide)) dL_law_504 ?_
  refine J_aload_n 4 hC dL_law_505 rfl rfl ?_
  refine J_iload 0 hC dL_law_506 rfl ?_
  refine J_iconst (v := 5) hC dL_law_508 (by decide) ?_
  refine J_iadd hC dL_law_509 ?_
  refine J_sld hC hX (sc_in (c := 5) hi hL (by decide)) dL_law_510 ?_
  refine J_aload_n 1 hC dL_law_511 rfl rfl ?_
  refine cl_L_106 hC (w_addTarget S x o σ hA ho hn _ _ _ _ _) (Nat.le_of_ble_eq_true rfl) ⟨⟨Nat.le_of_ble_eq_true rfl, Nat.le_of_ble_eq_true rfl⟩, by omega, by omega⟩ dL_law_512 (fun k T e => ?_)
  obtain ⟨v, σ1, hP, hA1, hf, ko, no, hv⟩ := e
  refine J_istore (lv' := [(5, _), (4, _), (3, _), (2, _), (1, _), (0, _)]) hC dL_law_515 (by decide) rfl ?_
  refine J_aload_n 3 hC dL_law_517 rfl rfl ?_
  refine J_aload_n 5 hC dL_law_518 rfl rfl ?_
  refine J_iload 1 hC dL_law_519 rfl ?_
  refine J_iconst (v := 1) hC dL_law_521 (by decide) ?_
  refine J_iadd hC dL_law_522 ?_
  refine J_sld hC hX (sc_in (c := 1) hi hL (by decide)) dL_law_523 ?_
  refine J_aload_n 5 hC dL_law_524 rfl rfl ?_
  refine J_iload 1 hC dL_law_525 rfl ?_
  refine J_iconst (v := 2) hC dL_law_527 (by decide) ?_
  refine J_iadd hC dL_law_528 ?_
  refine J_sld hC hX (sc_in (c := 2) hi hL (by decide)) dL_law_529 ?_
  refine J_aload_n 5 hC dL_law_530 rfl rfl ?_
  refine J_iload 1 hC dL_law_531 rfl ?_
  refine J_iconst (v := 3) hC dL_law_533 (by decide) ?_
  refine J_iadd hC dL_law_534 ?_
  refine J_sld hC hX (sc_in (c := 3) hi hL (by decide)) dL_law_535 ?_
  refine J_aload_n 5 hC dL_law_536 rfl rfl ?_
  refine J_iload 1 hC dL_law_537 rfl ?_
  refine J_iconst (v := 4) hC dL_law_539 (by decide) ?_
  refine J_iadd hC dL_law_540 ?_
  refine J_sld hC hX (sc_in (c := 4) hi hL (by decide)) dL_law_541 ?_
  refine J_aload_n 5 hC dL_law_542 rfl rfl ?_
  refine J_iload 1 hC dL_law_543 rfl ?_
  refine J_iconst (v := 5) hC dL_law_545 (by decide) ?_
  refine J_iadd hC dL_law_546 ?_
  refine J_sld hC hX (sc_in (c := 5) hi hL (by decide)) dL_law_547 ?_
  refine cl_L_109 hC (c_X6_addTarget T y B σ (hf y B σ hB) _ _ _ _ _) (hf y B σ hB).1.ky (Nat.le_of_ble_eq_true rfl) ⟨⟨Nat.le_of_ble_eq_true rfl, Nat.le_of_ble_eq_true rfl⟩, by omega, by omega⟩ dL_law_548 (fun r U e2 => ?_)
  obtain ⟨mx, hr⟩ := co_addTarget n20 hP e2
  refine J_istore (lv' := [(6, _), (5, _), (4, _), (3, _), (2, _), (1, _), (0, _)]) hC dL_law_551 (by decide) rfl ?_
  refine J_aload_n 4 hC dL_law_553 rfl rfl ?_
  refine cl_L_89 hC (c_X6_thrown U y mx.1.1.ky) mx.1.1.ky (Nat.le_of_ble_eq_true rfl) ⟨⟨Nat.le_of_ble_eq_true rfl, Nat.le_of_ble_eq_true rfl⟩, by omega, by omega⟩ dL_law_554 (fun r3 U3 e3 => ?_)
  obtain ⟨rfl, e3⟩ := e3
  subst U3
  refine J_topI mx.2.2 ?_
  refine J_iload 1 hC dL_law_557 rfl ?_
  refine J_icmp_eq 564 hC dL_law_559 (by decide) (fun c559 => ?_) (fun c559 => absurd rfl c559)
  refine J_iload 1 hC dL_law_564 rfl ?_
  refine J_if_ne 581 hC dL_law_566 (by decide) (fun c566 => ?_) (fun c566 => ?_)
  · refine J_goto 1509 hC dL_law_581 (by decide) ?_
    refine J_wd (cs' := cs + 370) (ss' := ss + 3800) (by omega) (by omega) ?_
    exact J_re [2, 3, 4, 5, 6] rfl (kk σ1 U (LIv.both hA1 ko no mx))
  · refine J_aload_n 3 hC dL_law_569 rfl rfl ?_
    refine J_iconst (v := 0) hC dL_law_570 (by decide) ?_
    refine J_lald hC (CSo mx ko) (inN (CSn mx ko no) (vp_in_nI (show 0 < 1 by decide) (by decide))) dL_law_571 ?_
    have k0 : k = 0 := c566
    refine J_topL (mx.hL ko (hv k0)) ?_
    refine J_iload 0 hC dL_law_572 rfl ?_
    refine J_i2l hC dL_law_574 ?_
    refine J_lcmp hC dL_law_575 ?_
    refine J_topI (show lg_cmp _ _ = 0 by rw [hr k0]; exact lg_cmp_same _) ?_
    refine J_if_eq 581 hC dL_law_576 (by decide) (fun c576 => ?_) (fun c576 => absurd rfl c576)
    refine J_goto 1509 hC dL_law_581 (by decide) ?_
    refine J_wd (cs' := cs + 370) (ss' := ss + 3800) (by omega) (by omega) ?_
    exact J_re [2, 3, 4, 5, 6] rfl (kk σ1 U (LIv.both hA1 ko no mx))

set_option maxHeartbeats 4000000 in
set_option maxRecDepth 100000 in
/-- the law's case 6 -/
theorem lc_want {X : JX} {G : JG} {Q : State → Prop} (hC : JCL X G) {b L : Nat} {zs : Nat → Int32} (hX : Scr X G b L zs) {x y o i : Nat} {σ : Sg} {S : HS} (hi : i + 6 ≤ L) (hL : L ≤ 3072) (hI : LIv G x y o σ S) {cs ss : Nat} (h1 : cs + 370 ≤ room_1.cells) (h2 : ss + 3800 ≤ room_1.slots) (kk : ∀ (σ' : Sg) (T : HS), LIv G x y o σ' T → J X G Q 9 (cs + 370) (ss + 3800) 1509 [(4, .int (nI i)), (3, .ref o), (2, .ref y), (1, .ref x), (0, .ref b)] [] T) : J X G Q 9 cs ss 584 [(4, .int (nI i)), (3, .ref o), (2, .ref y), (1, .ref x), (0, .ref b)] [] S := by
  obtain ⟨hA, ⟨B, hB⟩, ho, hn⟩ := hI
  have n20 : vn σ ≤ 20 := hB.2.2.1.2.2.2.2.2.2.2.1
  refine J_aload_n 3 hC dL_law_584 rfl rfl ?_
  refine J_aload_n 4 hC dL_law_585 rfl rfl ?_
  refine J_iload 0 hC dL_law_586 rfl ?_
  refine J_iconst (v := 1) hC dL_law_588 (by decide) ?_
  refine J_iadd hC dL_law_589 ?_
  refine J_sld hC hX (sc_in (c := 1) hi hL (by decide)) dL_law_590 ?_
  refine J_aload_n 4 hC dL_law_591 rfl rfl ?_
  refine J_iload 0 hC dL_law_592 rfl ?_
  refine J_iconst (v := 2) hC dL_law_594 (by decide) ?_
  refine J_iadd hC dL_law_595 ?_
  refine J_sld hC hX (sc_in (c := 2) hi hL (by decide)) dL_law_596 ?_
  refine J_aload_n 4 hC dL_law_597 rfl rfl ?_
  refine J_iload 0 hC dL_law_598 rfl ?_
  refine J_iconst (v := 3) hC dL_law_600 (by decide) ?_
  refine J_iadd hC dL_law_601 ?_
  refine J_sld hC hX (sc_in (c := 3) hi hL (by decide)) dL_law_602 ?_
  refine J_aload_n 4 hC dL_law_603 rfl rfl ?_
  refine J_iload 0 hC dL_law_604 rfl ?_
  refine J_iconst (v := 4) hC dL_law_606 (by decide) ?_
  refine J_iadd hC dL_law_607 ?_
  refine J_sld hC hX (sc_in (c := 4) hi hL (by decide)) dL_law_608 ?_
  refine J_aload_n 1 hC dL_law_609 rfl rfl ?_
  refine cl_L_110 hC (w_want S x o σ hA ho hn _ _ _ _) (Nat.le_of_ble_eq_true rfl) ⟨⟨Nat.le_of_ble_eq_true rfl, Nat.le_of_ble_eq_true rfl⟩, by omega, by omega⟩ dL_law_610 (fun k T e => ?_)
  obtain ⟨v, σ1, hP, hA1, hf, ko, no, hv⟩ := e
  refine J_istore (lv' := [(5, _), (4, _), (3, _), (2, _), (1, _), (0, _)]) hC dL_law_613 (by decide) rfl ?_
  refine J_aload_n 3 hC dL_law_615 rfl rfl ?_
  refine J_aload_n 5 hC dL_law_616 rfl rfl ?_
  refine J_iload 1 hC dL_law_617 rfl ?_
  refine J_iconst (v := 1) hC dL_law_619 (by decide) ?_
  refine J_iadd hC dL_law_620 ?_
  refine J_sld hC hX (sc_in (c := 1) hi hL (by decide)) dL_law_621 ?_
  refine J_aload_n 5 hC dL_law_622 rfl rfl ?_
  refine J_iload 1 hC dL_law_623 rfl ?_
  refine J_iconst (v := 2) hC dL_law_625 (by decide) ?_
  refine J_iadd hC dL_law_626 ?_
  refine J_sld hC hX (sc_in (c := 2) hi hL (by decide)) dL_law_627 ?_
  refine J_aload_n 5 hC dL_law_628 rfl rfl ?_
  refine J_iload 1 hC dL_law_629 rfl ?_
  refine J_iconst (v := 3) hC dL_law_631 (by decide) ?_
  refine J_iadd hC dL_law_632 ?_
  refine J_sld hC hX (sc_in (c := 3) hi hL (by decide)) dL_law_633 ?_
  refine J_aload_n 5 hC dL_law_634 rfl rfl ?_
  refine J_iload 1 hC dL_law_635 rfl ?_
  refine J_iconst (v := 4) hC dL_law_637 (by decide) ?_
  refine J_iadd hC dL_law_638 ?_
  refine J_sld hC hX (sc_in (c := 4) hi hL (by decide)) dL_law_639 ?_
  refine cl_L_113 hC (c_X6_want T y B σ (hf y B σ hB) _ _ _ _) (hf y B σ hB).1.ky (Nat.le_of_ble_eq_true rfl) ⟨⟨Nat.le_of_ble_eq_true rfl, Nat.le_of_ble_eq_true rfl⟩, by omega, by omega⟩ dL_law_640 (fun r U e2 => ?_)
  obtain ⟨mx, hr⟩ := co_want n20 hP e2
  refine J_istore (lv' := [(6, _), (5, _), (4, _), (3, _), (2, _), (1, _), (0, _)]) hC dL_law_643 (by decide) rfl ?_
  refine J_aload_n 4 hC dL_law_645 rfl rfl ?_
  refine cl_L_89 hC (c_X6_thrown U y mx.1.1.ky) mx.1.1.ky (Nat.le_of_ble_eq_true rfl) ⟨⟨Nat.le_of_ble_eq_true rfl, Nat.le_of_ble_eq_true rfl⟩, by omega, by omega⟩ dL_law_646 (fun r3 U3 e3 => ?_)
  obtain ⟨rfl, e3⟩ := e3
  subst U3
  refine J_topI mx.2.2 ?_
  refine J_iload 1 hC dL_law_649 rfl ?_
  refine J_icmp_eq 656 hC dL_law_651 (by decide) (fun c651 => ?_) (fun c651 => absurd rfl c651)
  refine J_iload 1 hC dL_law_656 rfl ?_
  refine J_if_ne 673 hC dL_law_658 (by decide) (fun c658 => ?_) (fun c658 => ?_)
  · refine J_goto 1509 hC dL_law_673 (by decide) ?_
    refine J_wd (cs' := cs + 370) (ss' := ss + 3800) (by omega) (by omega) ?_
    exact J_re [2, 3, 4, 5, 6] rfl (kk σ1 U (LIv.both hA1 ko no mx))
  · refine J_aload_n 3 hC dL_law_661 rfl rfl ?_
    refine J_iconst (v := 0) hC dL_law_662 (by decide) ?_
    refine J_lald hC (CSo mx ko) (inN (CSn mx ko no) (vp_in_nI (show 0 < 1 by decide) (by decide))) dL_law_663 ?_
    have k0 : k = 0 := c658
    refine J_topL (mx.hL ko (hv k0)) ?_
    refine J_iload 0 hC dL_law_664 rfl ?_
    refine J_i2l hC dL_law_666 ?_
    refine J_lcmp hC dL_law_667 ?_
    refine J_topI (show lg_cmp _ _ = 0 by rw [hr k0]; exact lg_cmp_same _) ?_
    refine J_if_eq 673 hC dL_law_668 (by decide) (fun c668 => ?_) (fun c668 => absurd rfl c668)
    refine J_goto 1509 hC dL_law_673 (by decide) ?_
    refine J_wd (cs' := cs + 370) (ss' := ss + 3800) (by omega) (by omega) ?_
    exact J_re [2, 3, 4, 5, 6] rfl (kk σ1 U (LIv.both hA1 ko no mx))

set_option maxHeartbeats 4000000 in
set_option maxRecDepth 100000 in
/-- the law's case 7 -/
theorem lc_target {X : JX} {G : JG} {Q : State → Prop} (hC : JCL X G) {b L : Nat} {zs : Nat → Int32} (hX : Scr X G b L zs) {x y o i : Nat} {σ : Sg} {S : HS} (hi : i + 6 ≤ L) (hL : L ≤ 3072) (hI : LIv G x y o σ S) {cs ss : Nat} (h1 : cs + 370 ≤ room_1.cells) (h2 : ss + 3800 ≤ room_1.slots) (kk : ∀ (σ' : Sg) (T : HS), LIv G x y o σ' T → J X G Q 9 (cs + 370) (ss + 3800) 1509 [(4, .int (nI i)), (3, .ref o), (2, .ref y), (1, .ref x), (0, .ref b)] [] T) : J X G Q 9 cs ss 676 [(4, .int (nI i)), (3, .ref o), (2, .ref y), (1, .ref x), (0, .ref b)] [] S := by
  obtain ⟨hA, ⟨B, hB⟩, ho, hn⟩ := hI
  have n20 : vn σ ≤ 20 := hB.2.2.1.2.2.2.2.2.2.2.1
  refine J_aload_n 3 hC dL_law_676 rfl rfl ?_
  refine J_aload_n 4 hC dL_law_677 rfl rfl ?_
  refine J_iload 0 hC dL_law_678 rfl ?_
  refine J_iconst (v := 1) hC dL_law_680 (by decide) ?_
  refine J_iadd hC dL_law_681 ?_
  refine J_sld hC hX (sc_in (c := 1) hi hL (by decide)) dL_law_682 ?_
  refine J_aload_n 4 hC dL_law_683 rfl rfl ?_
  refine J_iload 0 hC dL_law_684 rfl ?_
  refine J_iconst (v := 2) hC dL_law_686 (by decide) ?_
  refine J_iadd hC dL_law_687 ?_
  refine J_sld hC hX (sc_in (c := 2) hi hL (by decide)) dL_law_688 ?_
  refine J_aload_n 1 hC dL_law_689 rfl rfl ?_
  refine cl_L_114 hC (w_target S x o σ hA ho hn _ _) (Nat.le_of_ble_eq_true rfl) ⟨⟨Nat.le_of_ble_eq_true rfl, Nat.le_of_ble_eq_true rfl⟩, by omega, by omega⟩ dL_law_690 (fun k T e => ?_)
  obtain ⟨v, σ1, hP, hA1, hf, ko, no, hv⟩ := e
  refine J_istore (lv' := [(5, _), (4, _), (3, _), (2, _), (1, _), (0, _)]) hC dL_law_693 (by decide) rfl ?_
  refine J_aload_n 3 hC dL_law_695 rfl rfl ?_
  refine J_aload_n 5 hC dL_law_696 rfl rfl ?_
  refine J_iload 1 hC dL_law_697 rfl ?_
  refine J_iconst (v := 1) hC dL_law_699 (by decide) ?_
  refine J_iadd hC dL_law_700 ?_
  refine J_sld hC hX (sc_in (c := 1) hi hL (by decide)) dL_law_701 ?_
  refine J_aload_n 5 hC dL_law_702 rfl rfl ?_
  refine J_iload 1 hC dL_law_703 rfl ?_
  refine J_iconst (v := 2) hC dL_law_705 (by decide) ?_
  refine J_iadd hC dL_law_706 ?_
  refine J_sld hC hX (sc_in (c := 2) hi hL (by decide)) dL_law_707 ?_
  refine cl_L_116 hC (c_X6_target T y B σ (hf y B σ hB) _ _) (hf y B σ hB).1.ky (Nat.le_of_ble_eq_true rfl) ⟨⟨Nat.le_of_ble_eq_true rfl, Nat.le_of_ble_eq_true rfl⟩, by omega, by omega⟩ dL_law_708 (fun r U e2 => ?_)
  obtain ⟨mx, hr⟩ := co_target n20 hP e2
  refine J_istore (lv' := [(6, _), (5, _), (4, _), (3, _), (2, _), (1, _), (0, _)]) hC dL_law_711 (by decide) rfl ?_
  refine J_aload_n 4 hC dL_law_713 rfl rfl ?_
  refine cl_L_89 hC (c_X6_thrown U y mx.1.1.ky) mx.1.1.ky (Nat.le_of_ble_eq_true rfl) ⟨⟨Nat.le_of_ble_eq_true rfl, Nat.le_of_ble_eq_true rfl⟩, by omega, by omega⟩ dL_law_714 (fun r3 U3 e3 => ?_)
  obtain ⟨rfl, e3⟩ := e3
  subst U3
  refine J_topI mx.2.2 ?_
  refine J_iload 1 hC dL_law_717 rfl ?_
  refine J_icmp_eq 724 hC dL_law_719 (by decide) (fun c719 => ?_) (fun c719 => absurd rfl c719)
  refine J_iload 1 hC dL_law_724 rfl ?_
  refine J_if_ne 741 hC dL_law_726 (by decide) (fun c726 => ?_) (fun c726 => ?_)
  · refine J_goto 1509 hC dL_law_741 (by decide) ?_
    refine J_wd (cs' := cs + 370) (ss' := ss + 3800) (by omega) (by omega) ?_
    exact J_re [2, 3, 4, 5, 6] rfl (kk σ1 U (LIv.both hA1 ko no mx))
  · refine J_aload_n 3 hC dL_law_729 rfl rfl ?_
    refine J_iconst (v := 0) hC dL_law_730 (by decide) ?_
    refine J_lald hC (CSo mx ko) (inN (CSn mx ko no) (vp_in_nI (show 0 < 1 by decide) (by decide))) dL_law_731 ?_
    have k0 : k = 0 := c726
    refine J_topL (mx.hL ko (hv k0)) ?_
    refine J_iload 0 hC dL_law_732 rfl ?_
    refine J_i2l hC dL_law_734 ?_
    refine J_lcmp hC dL_law_735 ?_
    refine J_topI (show lg_cmp _ _ = 0 by rw [hr k0]; exact lg_cmp_same _) ?_
    refine J_if_eq 741 hC dL_law_736 (by decide) (fun c736 => ?_) (fun c736 => absurd rfl c736)
    refine J_goto 1509 hC dL_law_741 (by decide) ?_
    refine J_wd (cs' := cs + 370) (ss' := ss + 3800) (by omega) (by omega) ?_
    exact J_re [2, 3, 4, 5, 6] rfl (kk σ1 U (LIv.both hA1 ko no mx))

set_option maxHeartbeats 4000000 in
set_option maxRecDepth 100000 in
/-- the law's case 8 -/
theorem lc_height {X : JX} {G : JG} {Q : State → Prop} (hC : JCL X G) {b L : Nat} {zs : Nat → Int32} (hX : Scr X G b L zs) {x y o i : Nat} {σ : Sg} {S : HS} (hi : i + 6 ≤ L) (hL : L ≤ 3072) (hI : LIv G x y o σ S) {cs ss : Nat} (h1 : cs + 370 ≤ room_1.cells) (h2 : ss + 3800 ≤ room_1.slots) (kk : ∀ (σ' : Sg) (T : HS), LIv G x y o σ' T → J X G Q 9 (cs + 370) (ss + 3800) 1509 [(4, .int (nI i)), (3, .ref o), (2, .ref y), (1, .ref x), (0, .ref b)] [] T) : J X G Q 9 cs ss 744 [(4, .int (nI i)), (3, .ref o), (2, .ref y), (1, .ref x), (0, .ref b)] [] S := by
  obtain ⟨hA, ⟨B, hB⟩, ho, hn⟩ := hI
  have n20 : vn σ ≤ 20 := hB.2.2.1.2.2.2.2.2.2.2.1
  refine J_aload_n 3 hC dL_law_744 rfl rfl ?_
  refine J_aload_n 4 hC dL_law_745 rfl rfl ?_
  refine J_iload 0 hC dL_law_746 rfl ?_
  refine J_iconst (v := 1) hC dL_law_748 (by decide) ?_
  refine J_iadd hC dL_law_749 ?_
  refine J_sld hC hX (sc_in (c := 1) hi hL (by decide)) dL_law_750 ?_
  refine J_aload_n 4 hC dL_law_751 rfl rfl ?_
  refine J_iload 0 hC dL_law_752 rfl ?_
  refine J_iconst (v := 2) hC dL_law_754 (by decide) ?_
  refine J_iadd hC dL_law_755 ?_
  refine J_sld hC hX (sc_in (c := 2) hi hL (by decide)) dL_law_756 ?_
  refine J_aload_n 1 hC dL_law_757 rfl rfl ?_
  refine cl_L_117 hC (w_height S x o σ hA ho hn _ _) (Nat.le_of_ble_eq_true rfl) ⟨⟨Nat.le_of_ble_eq_true rfl, Nat.le_of_ble_eq_true rfl⟩, by omega, by omega⟩ dL_law_758 (fun k T e => ?_)
  obtain ⟨v, σ1, hP, hA1, hf, ko, no, hv⟩ := e
  refine J_istore (lv' := [(5, _), (4, _), (3, _), (2, _), (1, _), (0, _)]) hC dL_law_761 (by decide) rfl ?_
  refine J_aload_n 3 hC dL_law_763 rfl rfl ?_
  refine J_aload_n 5 hC dL_law_764 rfl rfl ?_
  refine J_iload 1 hC dL_law_765 rfl ?_
  refine J_iconst (v := 1) hC dL_law_767 (by decide) ?_
  refine J_iadd hC dL_law_768 ?_
  refine J_sld hC hX (sc_in (c := 1) hi hL (by decide)) dL_law_769 ?_
  refine J_aload_n 5 hC dL_law_770 rfl rfl ?_
  refine J_iload 1 hC dL_law_771 rfl ?_
  refine J_iconst (v := 2) hC dL_law_773 (by decide) ?_
  refine J_iadd hC dL_law_774 ?_
  refine J_sld hC hX (sc_in (c := 2) hi hL (by decide)) dL_law_775 ?_
  refine cl_L_119 hC (c_X6_height T y B σ (hf y B σ hB) _ _) (hf y B σ hB).1.ky (Nat.le_of_ble_eq_true rfl) ⟨⟨Nat.le_of_ble_eq_true rfl, Nat.le_of_ble_eq_true rfl⟩, by omega, by omega⟩ dL_law_776 (fun r U e2 => ?_)
  obtain ⟨mx, hr⟩ := co_height n20 hP e2
  refine J_istore (lv' := [(6, _), (5, _), (4, _), (3, _), (2, _), (1, _), (0, _)]) hC dL_law_779 (by decide) rfl ?_
  refine J_aload_n 4 hC dL_law_781 rfl rfl ?_
  refine cl_L_89 hC (c_X6_thrown U y mx.1.1.ky) mx.1.1.ky (Nat.le_of_ble_eq_true rfl) ⟨⟨Nat.le_of_ble_eq_true rfl, Nat.le_of_ble_eq_true rfl⟩, by omega, by omega⟩ dL_law_782 (fun r3 U3 e3 => ?_)
  obtain ⟨rfl, e3⟩ := e3
  subst U3
  refine J_topI mx.2.2 ?_
  refine J_iload 1 hC dL_law_785 rfl ?_
  refine J_icmp_eq 792 hC dL_law_787 (by decide) (fun c787 => ?_) (fun c787 => absurd rfl c787)
  refine J_iload 1 hC dL_law_792 rfl ?_
  refine J_if_ne 809 hC dL_law_794 (by decide) (fun c794 => ?_) (fun c794 => ?_)
  · refine J_goto 1509 hC dL_law_809 (by decide) ?_
    refine J_wd (cs' := cs + 370) (ss' := ss + 3800) (by omega) (by omega) ?_
    exact J_re [2, 3, 4, 5, 6] rfl (kk σ1 U (LIv.both hA1 ko no mx))
  · refine J_aload_n 3 hC dL_law_797 rfl rfl ?_
    refine J_iconst (v := 0) hC dL_law_798 (by decide) ?_
    refine J_lald hC (CSo mx ko) (inN (CSn mx ko no) (vp_in_nI (show 0 < 1 by decide) (by decide))) dL_law_799 ?_
    have k0 : k = 0 := c794
    refine J_topL (mx.hL ko (hv k0)) ?_
    refine J_iload 0 hC dL_law_800 rfl ?_
    refine J_i2l hC dL_law_802 ?_
    refine J_lcmp hC dL_law_803 ?_
    refine J_topI (show lg_cmp _ _ = 0 by rw [hr k0]; exact lg_cmp_same _) ?_
    refine J_if_eq 809 hC dL_law_804 (by decide) (fun c804 => ?_) (fun c804 => absurd rfl c804)
    refine J_goto 1509 hC dL_law_809 (by decide) ?_
    refine J_wd (cs' := cs + 370) (ss' := ss + 3800) (by omega) (by omega) ?_
    exact J_re [2, 3, 4, 5, 6] rfl (kk σ1 U (LIv.both hA1 ko no mx))

set_option maxHeartbeats 4000000 in
set_option maxRecDepth 100000 in
/-- the law's case 9 -/
theorem lc_nearness {X : JX} {G : JG} {Q : State → Prop} (hC : JCL X G) {b L : Nat} {zs : Nat → Int32} (hX : Scr X G b L zs) {x y o i : Nat} {σ : Sg} {S : HS} (hi : i + 6 ≤ L) (hL : L ≤ 3072) (hI : LIv G x y o σ S) {cs ss : Nat} (h1 : cs + 370 ≤ room_1.cells) (h2 : ss + 3800 ≤ room_1.slots) (kk : ∀ (σ' : Sg) (T : HS), LIv G x y o σ' T → J X G Q 9 (cs + 370) (ss + 3800) 1509 [(4, .int (nI i)), (3, .ref o), (2, .ref y), (1, .ref x), (0, .ref b)] [] T) : J X G Q 9 cs ss 812 [(4, .int (nI i)), (3, .ref o), (2, .ref y), (1, .ref x), (0, .ref b)] [] S := by
  obtain ⟨hA, ⟨B, hB⟩, ho, hn⟩ := hI
  have n20 : vn σ ≤ 20 := hB.2.2.1.2.2.2.2.2.2.2.1
  refine J_aload_n 3 hC dL_law_812 rfl rfl ?_
  refine J_aload_n 4 hC dL_law_813 rfl rfl ?_
  refine J_iload 0 hC dL_law_814 rfl ?_
  refine J_iconst (v := 1) hC dL_law_816 (by decide) ?_
  refine J_iadd hC dL_law_817 ?_
  refine J_sld hC hX (sc_in (c := 1) hi hL (by decide)) dL_law_818 ?_
  refine J_aload_n 4 hC dL_law_819 rfl rfl ?_
  refine J_iload 0 hC dL_law_820 rfl ?_
  refine J_iconst (v := 2) hC dL_law_822 (by decide) ?_
  refine J_iadd hC dL_law_823 ?_
  refine J_sld hC hX (sc_in (c := 2) hi hL (by decide)) dL_law_824 ?_
  refine J_aload_n 1 hC dL_law_825 rfl rfl ?_
  refine cl_L_120 hC (w_nearness S x o σ hA ho hn _ _) (Nat.le_of_ble_eq_true rfl) ⟨⟨Nat.le_of_ble_eq_true rfl, Nat.le_of_ble_eq_true rfl⟩, by omega, by omega⟩ dL_law_826 (fun k T e => ?_)
  obtain ⟨v, σ1, hP, hA1, hf, ko, no, hv⟩ := e
  refine J_istore (lv' := [(5, _), (4, _), (3, _), (2, _), (1, _), (0, _)]) hC dL_law_829 (by decide) rfl ?_
  refine J_aload_n 3 hC dL_law_831 rfl rfl ?_
  refine J_aload_n 5 hC dL_law_832 rfl rfl ?_
  refine J_iload 1 hC dL_law_833 rfl ?_
  refine J_iconst (v := 1) hC dL_law_835 (by decide) ?_
  refine J_iadd hC dL_law_836 ?_
  refine J_sld hC hX (sc_in (c := 1) hi hL (by decide)) dL_law_837 ?_
  refine J_aload_n 5 hC dL_law_838 rfl rfl ?_
  refine J_iload 1 hC dL_law_839 rfl ?_
  refine J_iconst (v := 2) hC dL_law_841 (by decide) ?_
  refine J_iadd hC dL_law_842 ?_
  refine J_sld hC hX (sc_in (c := 2) hi hL (by decide)) dL_law_843 ?_
  refine cl_L_122 hC (c_X6_nearness T y B σ (hf y B σ hB) _ _) (hf y B σ hB).1.ky (Nat.le_of_ble_eq_true rfl) ⟨⟨Nat.le_of_ble_eq_true rfl, Nat.le_of_ble_eq_true rfl⟩, by omega, by omega⟩ dL_law_844 (fun r U e2 => ?_)
  obtain ⟨mx, hr⟩ := co_nearness n20 hP e2
  refine J_istore (lv' := [(6, _), (5, _), (4, _), (3, _), (2, _), (1, _), (0, _)]) hC dL_law_847 (by decide) rfl ?_
  refine J_aload_n 4 hC dL_law_849 rfl rfl ?_
  refine cl_L_89 hC (c_X6_thrown U y mx.1.1.ky) mx.1.1.ky (Nat.le_of_ble_eq_true rfl) ⟨⟨Nat.le_of_ble_eq_true rfl, Nat.le_of_ble_eq_true rfl⟩, by omega, by omega⟩ dL_law_850 (fun r3 U3 e3 => ?_)
  obtain ⟨rfl, e3⟩ := e3
  subst U3
  refine J_topI mx.2.2 ?_
  refine J_iload 1 hC dL_law_853 rfl ?_
  refine J_icmp_eq 860 hC dL_law_855 (by decide) (fun c855 => ?_) (fun c855 => absurd rfl c855)
  refine J_iload 1 hC dL_law_860 rfl ?_
  refine J_if_ne 877 hC dL_law_862 (by decide) (fun c862 => ?_) (fun c862 => ?_)
  · refine J_goto 1509 hC dL_law_877 (by decide) ?_
    refine J_wd (cs' := cs + 370) (ss' := ss + 3800) (by omega) (by omega) ?_
    exact J_re [2, 3, 4, 5, 6] rfl (kk σ1 U (LIv.both hA1 ko no mx))
  · refine J_aload_n 3 hC dL_law_865 rfl rfl ?_
    refine J_iconst (v := 0) hC dL_law_866 (by decide) ?_
    refine J_lald hC (CSo mx ko) (inN (CSn mx ko no) (vp_in_nI (show 0 < 1 by decide) (by decide))) dL_law_867 ?_
    have k0 : k = 0 := c862
    refine J_topL (mx.hL ko (hv k0)) ?_
    refine J_iload 0 hC dL_law_868 rfl ?_
    refine J_i2l hC dL_law_870 ?_
    refine J_lcmp hC dL_law_871 ?_
    refine J_topI (show lg_cmp _ _ = 0 by rw [hr k0]; exact lg_cmp_same _) ?_
    refine J_if_eq 877 hC dL_law_872 (by decide) (fun c872 => ?_) (fun c872 => absurd rfl c872)
    refine J_goto 1509 hC dL_law_877 (by decide) ?_
    refine J_wd (cs' := cs + 370) (ss' := ss + 3800) (by omega) (by omega) ?_
    exact J_re [2, 3, 4, 5, 6] rfl (kk σ1 U (LIv.both hA1 ko no mx))

set_option maxHeartbeats 4000000 in
set_option maxRecDepth 100000 in
/-- the law's case 10 -/
theorem lc_moonNearness {X : JX} {G : JG} {Q : State → Prop} (hC : JCL X G) {b L : Nat} {zs : Nat → Int32} (hX : Scr X G b L zs) {x y o i : Nat} {σ : Sg} {S : HS} (hi : i + 6 ≤ L) (hL : L ≤ 3072) (hI : LIv G x y o σ S) {cs ss : Nat} (h1 : cs + 370 ≤ room_1.cells) (h2 : ss + 3800 ≤ room_1.slots) (kk : ∀ (σ' : Sg) (T : HS), LIv G x y o σ' T → J X G Q 9 (cs + 370) (ss + 3800) 1509 [(4, .int (nI i)), (3, .ref o), (2, .ref y), (1, .ref x), (0, .ref b)] [] T) : J X G Q 9 cs ss 880 [(4, .int (nI i)), (3, .ref o), (2, .ref y), (1, .ref x), (0, .ref b)] [] S := by
  obtain ⟨hA, ⟨B, hB⟩, ho, hn⟩ := hI
  have n20 : vn σ ≤ 20 := hB.2.2.1.2.2.2.2.2.2.2.1
  refine J_aload_n 3 hC dL_law_880 rfl rfl ?_
  refine J_aload_n 4 hC dL_law_881 rfl rfl ?_
  refine J_iload 0 hC dL_law_882 rfl ?_
  refine J_iconst (v := 1) hC dL_law_884 (by decide) ?_
  refine J_iadd hC dL_law_885 ?_
  refine J_sld hC hX (sc_in (c := 1) hi hL (by decide)) dL_law_886 ?_
  refine J_aload_n 1 hC dL_law_887 rfl rfl ?_
  refine cl_L_123 hC (w_moonNearness S x o σ hA ho hn _) (Nat.le_of_ble_eq_true rfl) ⟨⟨Nat.le_of_ble_eq_true rfl, Nat.le_of_ble_eq_true rfl⟩, by omega, by omega⟩ dL_law_888 (fun k T e => ?_)
  obtain ⟨v, σ1, hP, hA1, hf, ko, no, hv⟩ := e
  refine J_istore (lv' := [(5, _), (4, _), (3, _), (2, _), (1, _), (0, _)]) hC dL_law_891 (by decide) rfl ?_
  refine J_aload_n 3 hC dL_law_893 rfl rfl ?_
  refine J_aload_n 5 hC dL_law_894 rfl rfl ?_
  refine J_iload 1 hC dL_law_895 rfl ?_
  refine J_iconst (v := 1) hC dL_law_897 (by decide) ?_
  refine J_iadd hC dL_law_898 ?_
  refine J_sld hC hX (sc_in (c := 1) hi hL (by decide)) dL_law_899 ?_
  refine cl_L_125 hC (c_X6_moonNearness T y B σ (hf y B σ hB) _) (hf y B σ hB).1.ky (Nat.le_of_ble_eq_true rfl) ⟨⟨Nat.le_of_ble_eq_true rfl, Nat.le_of_ble_eq_true rfl⟩, by omega, by omega⟩ dL_law_900 (fun r U e2 => ?_)
  obtain ⟨mx, hr⟩ := co_moonNearness n20 hP e2
  refine J_istore (lv' := [(6, _), (5, _), (4, _), (3, _), (2, _), (1, _), (0, _)]) hC dL_law_903 (by decide) rfl ?_
  refine J_aload_n 4 hC dL_law_905 rfl rfl ?_
  refine cl_L_89 hC (c_X6_thrown U y mx.1.1.ky) mx.1.1.ky (Nat.le_of_ble_eq_true rfl) ⟨⟨Nat.le_of_ble_eq_true rfl, Nat.le_of_ble_eq_true rfl⟩, by omega, by omega⟩ dL_law_906 (fun r3 U3 e3 => ?_)
  obtain ⟨rfl, e3⟩ := e3
  subst U3
  refine J_topI mx.2.2 ?_
  refine J_iload 1 hC dL_law_909 rfl ?_
  refine J_icmp_eq 916 hC dL_law_911 (by decide) (fun c911 => ?_) (fun c911 => absurd rfl c911)
  refine J_iload 1 hC dL_law_916 rfl ?_
  refine J_if_ne 933 hC dL_law_918 (by decide) (fun c918 => ?_) (fun c918 => ?_)
  · refine J_goto 1509 hC dL_law_933 (by decide) ?_
    refine J_wd (cs' := cs + 370) (ss' := ss + 3800) (by omega) (by omega) ?_
    exact J_re [2, 3, 4, 5, 6] rfl (kk σ1 U (LIv.both hA1 ko no mx))
  · refine J_aload_n 3 hC dL_law_921 rfl rfl ?_
    refine J_iconst (v := 0) hC dL_law_922 (by decide) ?_
    refine J_lald hC (CSo mx ko) (inN (CSn mx ko no) (vp_in_nI (show 0 < 1 by decide) (by decide))) dL_law_923 ?_
    have k0 : k = 0 := c918
    refine J_topL (mx.hL ko (hv k0)) ?_
    refine J_iload 0 hC dL_law_924 rfl ?_
    refine J_i2l hC dL_law_926 ?_
    refine J_lcmp hC dL_law_927 ?_
    refine J_topI (show lg_cmp _ _ = 0 by rw [hr k0]; exact lg_cmp_same _) ?_
    refine J_if_eq 933 hC dL_law_928 (by decide) (fun c928 => ?_) (fun c928 => absurd rfl c928)
    refine J_goto 1509 hC dL_law_933 (by decide) ?_
    refine J_wd (cs' := cs + 370) (ss' := ss + 3800) (by omega) (by omega) ?_
    exact J_re [2, 3, 4, 5, 6] rfl (kk σ1 U (LIv.both hA1 ko no mx))

set_option maxHeartbeats 4000000 in
set_option maxRecDepth 100000 in
/-- the law's case 11 -/
theorem lc_moonHeight {X : JX} {G : JG} {Q : State → Prop} (hC : JCL X G) {b L : Nat} {zs : Nat → Int32} (hX : Scr X G b L zs) {x y o i : Nat} {σ : Sg} {S : HS} (hi : i + 6 ≤ L) (hL : L ≤ 3072) (hI : LIv G x y o σ S) {cs ss : Nat} (h1 : cs + 370 ≤ room_1.cells) (h2 : ss + 3800 ≤ room_1.slots) (kk : ∀ (σ' : Sg) (T : HS), LIv G x y o σ' T → J X G Q 9 (cs + 370) (ss + 3800) 1509 [(4, .int (nI i)), (3, .ref o), (2, .ref y), (1, .ref x), (0, .ref b)] [] T) : J X G Q 9 cs ss 936 [(4, .int (nI i)), (3, .ref o), (2, .ref y), (1, .ref x), (0, .ref b)] [] S := by
  obtain ⟨hA, ⟨B, hB⟩, ho, hn⟩ := hI
  have n20 : vn σ ≤ 20 := hB.2.2.1.2.2.2.2.2.2.2.1
  refine J_aload_n 3 hC dL_law_936 rfl rfl ?_
  refine J_aload_n 4 hC dL_law_937 rfl rfl ?_
  refine J_iload 0 hC dL_law_938 rfl ?_
  refine J_iconst (v := 1) hC dL_law_940 (by decide) ?_
  refine J_iadd hC dL_law_941 ?_
  refine J_sld hC hX (sc_in (c := 1) hi hL (by decide)) dL_law_942 ?_
  refine J_aload_n 1 hC dL_law_943 rfl rfl ?_
  refine cl_L_126 hC (w_moonHeight S x o σ hA ho hn _) (Nat.le_of_ble_eq_true rfl) ⟨⟨Nat.le_of_ble_eq_true rfl, Nat.le_of_ble_eq_true rfl⟩, by omega, by omega⟩ dL_law_944 (fun k T e => ?_)
  obtain ⟨v, σ1, hP, hA1, hf, ko, no, hv⟩ := e
  refine J_istore (lv' := [(5, _), (4, _), (3, _), (2, _), (1, _), (0, _)]) hC dL_law_947 (by decide) rfl ?_
  refine J_aload_n 3 hC dL_law_949 rfl rfl ?_
  refine J_aload_n 5 hC dL_law_950 rfl rfl ?_
  refine J_iload 1 hC dL_law_951 rfl ?_
  refine J_iconst (v := 1) hC dL_law_953 (by decide) ?_
  refine J_iadd hC dL_law_954 ?_
  refine J_sld hC hX (sc_in (c := 1) hi hL (by decide)) dL_law_955 ?_
  refine cl_L_128 hC (c_X6_moonHeight T y B σ (hf y B σ hB) _) (hf y B σ hB).1.ky (Nat.le_of_ble_eq_true rfl) ⟨⟨Nat.le_of_ble_eq_true rfl, Nat.le_of_ble_eq_true rfl⟩, by omega, by omega⟩ dL_law_956 (fun r U e2 => ?_)
  obtain ⟨mx, hr⟩ := co_moonHeight n20 hP e2
  refine J_istore (lv' := [(6, _), (5, _), (4, _), (3, _), (2, _), (1, _), (0, _)]) hC dL_law_959 (by decide) rfl ?_
  refine J_aload_n 4 hC dL_law_961 rfl rfl ?_
  refine cl_L_89 hC (c_X6_thrown U y mx.1.1.ky) mx.1.1.ky (Nat.le_of_ble_eq_true rfl) ⟨⟨Nat.le_of_ble_eq_true rfl, Nat.le_of_ble_eq_true rfl⟩, by omega, by omega⟩ dL_law_962 (fun r3 U3 e3 => ?_)
  obtain ⟨rfl, e3⟩ := e3
  subst U3
  refine J_topI mx.2.2 ?_
  refine J_iload 1 hC dL_law_965 rfl ?_
  refine J_icmp_eq 972 hC dL_law_967 (by decide) (fun c967 => ?_) (fun c967 => absurd rfl c967)
  refine J_iload 1 hC dL_law_972 rfl ?_
  refine J_if_ne 989 hC dL_law_974 (by decide) (fun c974 => ?_) (fun c974 => ?_)
  · refine J_goto 1509 hC dL_law_989 (by decide) ?_
    refine J_wd (cs' := cs + 370) (ss' := ss + 3800) (by omega) (by omega) ?_
    exact J_re [2, 3, 4, 5, 6] rfl (kk σ1 U (LIv.both hA1 ko no mx))
  · refine J_aload_n 3 hC dL_law_977 rfl rfl ?_
    refine J_iconst (v := 0) hC dL_law_978 (by decide) ?_
    refine J_lald hC (CSo mx ko) (inN (CSn mx ko no) (vp_in_nI (show 0 < 1 by decide) (by decide))) dL_law_979 ?_
    have k0 : k = 0 := c974
    refine J_topL (mx.hL ko (hv k0)) ?_
    refine J_iload 0 hC dL_law_980 rfl ?_
    refine J_i2l hC dL_law_982 ?_
    refine J_lcmp hC dL_law_983 ?_
    refine J_topI (show lg_cmp _ _ = 0 by rw [hr k0]; exact lg_cmp_same _) ?_
    refine J_if_eq 989 hC dL_law_984 (by decide) (fun c984 => ?_) (fun c984 => absurd rfl c984)
    refine J_goto 1509 hC dL_law_989 (by decide) ?_
    refine J_wd (cs' := cs + 370) (ss' := ss + 3800) (by omega) (by omega) ?_
    exact J_re [2, 3, 4, 5, 6] rfl (kk σ1 U (LIv.both hA1 ko no mx))

set_option maxHeartbeats 4000000 in
set_option maxRecDepth 100000 in
/-- the law's case 12 -/
theorem lc_reason {X : JX} {G : JG} {Q : State → Prop} (hC : JCL X G) {b L : Nat} {zs : Nat → Int32} (hX : Scr X G b L zs) {x y o i : Nat} {σ : Sg} {S : HS} (hi : i + 6 ≤ L) (hL : L ≤ 3072) (hI : LIv G x y o σ S) {cs ss : Nat} (h1 : cs + 370 ≤ room_1.cells) (h2 : ss + 3800 ≤ room_1.slots) (kk : ∀ (σ' : Sg) (T : HS), LIv G x y o σ' T → J X G Q 9 (cs + 370) (ss + 3800) 1509 [(4, .int (nI i)), (3, .ref o), (2, .ref y), (1, .ref x), (0, .ref b)] [] T) : J X G Q 9 cs ss 992 [(4, .int (nI i)), (3, .ref o), (2, .ref y), (1, .ref x), (0, .ref b)] [] S := by
  obtain ⟨hA, ⟨B, hB⟩, ho, hn⟩ := hI
  have n20 : vn σ ≤ 20 := hB.2.2.1.2.2.2.2.2.2.2.1
  refine J_aload_n 3 hC dL_law_992 rfl rfl ?_
  refine J_aload_n 4 hC dL_law_993 rfl rfl ?_
  refine J_iload 0 hC dL_law_994 rfl ?_
  refine J_iconst (v := 1) hC dL_law_996 (by decide) ?_
  refine J_iadd hC dL_law_997 ?_
  refine J_sld hC hX (sc_in (c := 1) hi hL (by decide)) dL_law_998 ?_
  refine J_aload_n 4 hC dL_law_999 rfl rfl ?_
  refine J_iload 0 hC dL_law_1000 rfl ?_
  refine J_iconst (v := 2) hC dL_law_1002 (by decide) ?_
  refine J_iadd hC dL_law_1003 ?_
  refine J_sld hC hX (sc_in (c := 2) hi hL (by decide)) dL_law_1004 ?_
  refine J_aload_n 1 hC dL_law_1005 rfl rfl ?_
  refine cl_L_129 hC (w_reason S x o σ hA ho hn _ _) (Nat.le_of_ble_eq_true rfl) ⟨⟨Nat.le_of_ble_eq_true rfl, Nat.le_of_ble_eq_true rfl⟩, by omega, by omega⟩ dL_law_1006 (fun k T e => ?_)
  obtain ⟨v, σ1, hP, hA1, hf, ko, no, hv⟩ := e
  refine J_istore (lv' := [(5, _), (4, _), (3, _), (2, _), (1, _), (0, _)]) hC dL_law_1009 (by decide) rfl ?_
  refine J_aload_n 3 hC dL_law_1011 rfl rfl ?_
  refine J_aload_n 5 hC dL_law_1012 rfl rfl ?_
  refine J_iload 1 hC dL_law_1013 rfl ?_
  refine J_iconst (v := 1) hC dL_law_1015 (by decide) ?_
  refine J_iadd hC dL_law_1016 ?_
  refine J_sld hC hX (sc_in (c := 1) hi hL (by decide)) dL_law_1017 ?_
  refine J_aload_n 5 hC dL_law_1018 rfl rfl ?_
  refine J_iload 1 hC dL_law_1019 rfl ?_
  refine J_iconst (v := 2) hC dL_law_1021 (by decide) ?_
  refine J_iadd hC dL_law_1022 ?_
  refine J_sld hC hX (sc_in (c := 2) hi hL (by decide)) dL_law_1023 ?_
  refine cl_L_131 hC (c_X6_reason T y B σ (hf y B σ hB) _ _) (hf y B σ hB).1.ky (Nat.le_of_ble_eq_true rfl) ⟨⟨Nat.le_of_ble_eq_true rfl, Nat.le_of_ble_eq_true rfl⟩, by omega, by omega⟩ dL_law_1024 (fun r U e2 => ?_)
  obtain ⟨mx, hr⟩ := co_reason n20 hP e2
  refine J_istore (lv' := [(6, _), (5, _), (4, _), (3, _), (2, _), (1, _), (0, _)]) hC dL_law_1027 (by decide) rfl ?_
  refine J_aload_n 4 hC dL_law_1029 rfl rfl ?_
  refine cl_L_89 hC (c_X6_thrown U y mx.1.1.ky) mx.1.1.ky (Nat.le_of_ble_eq_true rfl) ⟨⟨Nat.le_of_ble_eq_true rfl, Nat.le_of_ble_eq_true rfl⟩, by omega, by omega⟩ dL_law_1030 (fun r3 U3 e3 => ?_)
  obtain ⟨rfl, e3⟩ := e3
  subst U3
  refine J_topI mx.2.2 ?_
  refine J_iload 1 hC dL_law_1033 rfl ?_
  refine J_icmp_eq 1040 hC dL_law_1035 (by decide) (fun c1035 => ?_) (fun c1035 => absurd rfl c1035)
  refine J_iload 1 hC dL_law_1040 rfl ?_
  refine J_if_ne 1057 hC dL_law_1042 (by decide) (fun c1042 => ?_) (fun c1042 => ?_)
  · refine J_goto 1509 hC dL_law_1057 (by decide) ?_
    refine J_wd (cs' := cs + 370) (ss' := ss + 3800) (by omega) (by omega) ?_
    exact J_re [2, 3, 4, 5, 6] rfl (kk σ1 U (LIv.both hA1 ko no mx))
  · refine J_aload_n 3 hC dL_law_1045 rfl rfl ?_
    refine J_iconst (v := 0) hC dL_law_1046 (by decide) ?_
    refine J_lald hC (CSo mx ko) (inN (CSn mx ko no) (vp_in_nI (show 0 < 1 by decide) (by decide))) dL_law_1047 ?_
    have k0 : k = 0 := c1042
    refine J_topL (mx.hL ko (hv k0)) ?_
    refine J_iload 0 hC dL_law_1048 rfl ?_
    refine J_i2l hC dL_law_1050 ?_
    refine J_lcmp hC dL_law_1051 ?_
    refine J_topI (show lg_cmp _ _ = 0 by rw [hr k0]; exact lg_cmp_same _) ?_
    refine J_if_eq 1057 hC dL_law_1052 (by decide) (fun c1052 => ?_) (fun c1052 => absurd rfl c1052)
    refine J_goto 1509 hC dL_law_1057 (by decide) ?_
    refine J_wd (cs' := cs + 370) (ss' := ss + 3800) (by omega) (by omega) ?_
    exact J_re [2, 3, 4, 5, 6] rfl (kk σ1 U (LIv.both hA1 ko no mx))

set_option maxHeartbeats 4000000 in
set_option maxRecDepth 100000 in
/-- the law's case 13 -/
theorem lc_window {X : JX} {G : JG} {Q : State → Prop} (hC : JCL X G) {b L : Nat} {zs : Nat → Int32} (hX : Scr X G b L zs) {x y o i : Nat} {σ : Sg} {S : HS} (hi : i + 6 ≤ L) (hL : L ≤ 3072) (hI : LIv G x y o σ S) {cs ss : Nat} (h1 : cs + 370 ≤ room_1.cells) (h2 : ss + 3800 ≤ room_1.slots) (kk : ∀ (σ' : Sg) (T : HS), LIv G x y o σ' T → J X G Q 9 (cs + 370) (ss + 3800) 1509 [(4, .int (nI i)), (3, .ref o), (2, .ref y), (1, .ref x), (0, .ref b)] [] T) : J X G Q 9 cs ss 1060 [(4, .int (nI i)), (3, .ref o), (2, .ref y), (1, .ref x), (0, .ref b)] [] S := by
  obtain ⟨hA, ⟨B, hB⟩, ho, hn⟩ := hI
  have n20 : vn σ ≤ 20 := hB.2.2.1.2.2.2.2.2.2.2.1
  refine J_aload_n 3 hC dL_law_1060 rfl rfl ?_
  refine J_aload_n 4 hC dL_law_1061 rfl rfl ?_
  refine J_iload 0 hC dL_law_1062 rfl ?_
  refine J_iconst (v := 1) hC dL_law_1064 (by decide) ?_
  refine J_iadd hC dL_law_1065 ?_
  refine J_sld hC hX (sc_in (c := 1) hi hL (by decide)) dL_law_1066 ?_
  refine J_aload_n 4 hC dL_law_1067 rfl rfl ?_
  refine J_iload 0 hC dL_law_1068 rfl ?_
  refine J_iconst (v := 2) hC dL_law_1070 (by decide) ?_
  refine J_iadd hC dL_law_1071 ?_
  refine J_sld hC hX (sc_in (c := 2) hi hL (by decide)) dL_law_1072 ?_
  refine J_aload_n 1 hC dL_law_1073 rfl rfl ?_
  refine cl_L_132 hC (w_window S x o σ hA ho hn _ _) (Nat.le_of_ble_eq_true rfl) ⟨⟨Nat.le_of_ble_eq_true rfl, Nat.le_of_ble_eq_true rfl⟩, by omega, by omega⟩ dL_law_1074 (fun k T e => ?_)
  obtain ⟨v, σ1, hP, hA1, hf, ko, no, hv⟩ := e
  refine J_istore (lv' := [(5, _), (4, _), (3, _), (2, _), (1, _), (0, _)]) hC dL_law_1077 (by decide) rfl ?_
  refine J_aload_n 3 hC dL_law_1079 rfl rfl ?_
  refine J_aload_n 5 hC dL_law_1080 rfl rfl ?_
  refine J_iload 1 hC dL_law_1081 rfl ?_
  refine J_iconst (v := 1) hC dL_law_1083 (by decide) ?_
  refine J_iadd hC dL_law_1084 ?_
  refine J_sld hC hX (sc_in (c := 1) hi hL (by decide)) dL_law_1085 ?_
  refine J_aload_n 5 hC dL_law_1086 rfl rfl ?_
  refine J_iload 1 hC dL_law_1087 rfl ?_
  refine J_iconst (v := 2) hC dL_law_1089 (by decide) ?_
  refine J_iadd hC dL_law_1090 ?_
  refine J_sld hC hX (sc_in (c := 2) hi hL (by decide)) dL_law_1091 ?_
  refine cl_L_134 hC (c_X6_window T y B σ (hf y B σ hB) _ _) (hf y B σ hB).1.ky (Nat.le_of_ble_eq_true rfl) ⟨⟨Nat.le_of_ble_eq_true rfl, Nat.le_of_ble_eq_true rfl⟩, by omega, by omega⟩ dL_law_1092 (fun r U e2 => ?_)
  obtain ⟨mx, hr⟩ := co_window n20 hP e2
  refine J_istore (lv' := [(6, _), (5, _), (4, _), (3, _), (2, _), (1, _), (0, _)]) hC dL_law_1095 (by decide) rfl ?_
  refine J_aload_n 4 hC dL_law_1097 rfl rfl ?_
  refine cl_L_89 hC (c_X6_thrown U y mx.1.1.ky) mx.1.1.ky (Nat.le_of_ble_eq_true rfl) ⟨⟨Nat.le_of_ble_eq_true rfl, Nat.le_of_ble_eq_true rfl⟩, by omega, by omega⟩ dL_law_1098 (fun r3 U3 e3 => ?_)
  obtain ⟨rfl, e3⟩ := e3
  subst U3
  refine J_topI mx.2.2 ?_
  refine J_iload 1 hC dL_law_1101 rfl ?_
  refine J_icmp_eq 1108 hC dL_law_1103 (by decide) (fun c1103 => ?_) (fun c1103 => absurd rfl c1103)
  refine J_iload 1 hC dL_law_1108 rfl ?_
  refine J_if_ne 1125 hC dL_law_1110 (by decide) (fun c1110 => ?_) (fun c1110 => ?_)
  · refine J_goto 1509 hC dL_law_1125 (by decide) ?_
    refine J_wd (cs' := cs + 370) (ss' := ss + 3800) (by omega) (by omega) ?_
    exact J_re [2, 3, 4, 5, 6] rfl (kk σ1 U (LIv.both hA1 ko no mx))
  · refine J_aload_n 3 hC dL_law_1113 rfl rfl ?_
    refine J_iconst (v := 0) hC dL_law_1114 (by decide) ?_
    refine J_lald hC (CSo mx ko) (inN (CSn mx ko no) (vp_in_nI (show 0 < 1 by decide) (by decide))) dL_law_1115 ?_
    have k0 : k = 0 := c1110
    refine J_topL (mx.hL ko (hv k0)) ?_
    refine J_iload 0 hC dL_law_1116 rfl ?_
    refine J_i2l hC dL_law_1118 ?_
    refine J_lcmp hC dL_law_1119 ?_
    refine J_topI (show lg_cmp _ _ = 0 by rw [hr k0]; exact lg_cmp_same _) ?_
    refine J_if_eq 1125 hC dL_law_1120 (by decide) (fun c1120 => ?_) (fun c1120 => absurd rfl c1120)
    refine J_goto 1509 hC dL_law_1125 (by decide) ?_
    refine J_wd (cs' := cs + 370) (ss' := ss + 3800) (by omega) (by omega) ?_
    exact J_re [2, 3, 4, 5, 6] rfl (kk σ1 U (LIv.both hA1 ko no mx))

set_option maxHeartbeats 4000000 in
set_option maxRecDepth 100000 in
/-- the law's case 14 -/
theorem lc_isOpen {X : JX} {G : JG} {Q : State → Prop} (hC : JCL X G) {b L : Nat} {zs : Nat → Int32} (hX : Scr X G b L zs) {x y o i : Nat} {σ : Sg} {S : HS} (hi : i + 6 ≤ L) (hL : L ≤ 3072) (hI : LIv G x y o σ S) {cs ss : Nat} (h1 : cs + 370 ≤ room_1.cells) (h2 : ss + 3800 ≤ room_1.slots) (kk : ∀ (σ' : Sg) (T : HS), LIv G x y o σ' T → J X G Q 9 (cs + 370) (ss + 3800) 1509 [(4, .int (nI i)), (3, .ref o), (2, .ref y), (1, .ref x), (0, .ref b)] [] T) : J X G Q 9 cs ss 1128 [(4, .int (nI i)), (3, .ref o), (2, .ref y), (1, .ref x), (0, .ref b)] [] S := by
  obtain ⟨hA, ⟨B, hB⟩, ho, hn⟩ := hI
  have n20 : vn σ ≤ 20 := hB.2.2.1.2.2.2.2.2.2.2.1
  refine J_aload_n 3 hC dL_law_1128 rfl rfl ?_
  refine J_aload_n 4 hC dL_law_1129 rfl rfl ?_
  refine J_iload 0 hC dL_law_1130 rfl ?_
  refine J_iconst (v := 1) hC dL_law_1132 (by decide) ?_
  refine J_iadd hC dL_law_1133 ?_
  refine J_sld hC hX (sc_in (c := 1) hi hL (by decide)) dL_law_1134 ?_
  refine J_aload_n 1 hC dL_law_1135 rfl rfl ?_
  refine cl_L_135 hC (w_isOpen S x o σ hA ho hn _) (Nat.le_of_ble_eq_true rfl) ⟨⟨Nat.le_of_ble_eq_true rfl, Nat.le_of_ble_eq_true rfl⟩, by omega, by omega⟩ dL_law_1136 (fun k T e => ?_)
  obtain ⟨v, σ1, hP, hA1, hf, ko, no, hv⟩ := e
  refine J_istore (lv' := [(5, _), (4, _), (3, _), (2, _), (1, _), (0, _)]) hC dL_law_1139 (by decide) rfl ?_
  refine J_aload_n 3 hC dL_law_1141 rfl rfl ?_
  refine J_aload_n 5 hC dL_law_1142 rfl rfl ?_
  refine J_iload 1 hC dL_law_1143 rfl ?_
  refine J_iconst (v := 1) hC dL_law_1145 (by decide) ?_
  refine J_iadd hC dL_law_1146 ?_
  refine J_sld hC hX (sc_in (c := 1) hi hL (by decide)) dL_law_1147 ?_
  refine cl_L_137 hC (c_X6_isOpen T y B σ (hf y B σ hB) _) (hf y B σ hB).1.ky (Nat.le_of_ble_eq_true rfl) ⟨⟨Nat.le_of_ble_eq_true rfl, Nat.le_of_ble_eq_true rfl⟩, by omega, by omega⟩ dL_law_1148 (fun r U e2 => ?_)
  obtain ⟨mx, hr⟩ := co_isOpen n20 hP e2
  refine J_istore (lv' := [(6, _), (5, _), (4, _), (3, _), (2, _), (1, _), (0, _)]) hC dL_law_1151 (by decide) rfl ?_
  refine J_aload_n 4 hC dL_law_1153 rfl rfl ?_
  refine cl_L_89 hC (c_X6_thrown U y mx.1.1.ky) mx.1.1.ky (Nat.le_of_ble_eq_true rfl) ⟨⟨Nat.le_of_ble_eq_true rfl, Nat.le_of_ble_eq_true rfl⟩, by omega, by omega⟩ dL_law_1154 (fun r3 U3 e3 => ?_)
  obtain ⟨rfl, e3⟩ := e3
  subst U3
  refine J_topI mx.2.2 ?_
  refine J_iload 1 hC dL_law_1157 rfl ?_
  refine J_icmp_eq 1164 hC dL_law_1159 (by decide) (fun c1159 => ?_) (fun c1159 => absurd rfl c1159)
  refine J_iload 1 hC dL_law_1164 rfl ?_
  refine J_if_ne 1188 hC dL_law_1166 (by decide) (fun c1166 => ?_) (fun c1166 => ?_)
  · refine J_goto 1509 hC dL_law_1188 (by decide) ?_
    refine J_wd (cs' := cs + 370) (ss' := ss + 3800) (by omega) (by omega) ?_
    exact J_re [2, 3, 4, 5, 6] rfl (kk σ1 U (LIv.both hA1 ko no mx))
  · refine J_aload_n 3 hC dL_law_1169 rfl rfl ?_
    refine J_iconst (v := 0) hC dL_law_1170 (by decide) ?_
    refine J_lald hC (CSo mx ko) (inN (CSn mx ko no) (vp_in_nI (show 0 < 1 by decide) (by decide))) dL_law_1171 ?_
    have k0 : k = 0 := c1166
    refine J_topL (mx.hL ko (hv k0)) ?_
    refine J_iload 0 hC dL_law_1172 rfl ?_
    refine J_if_eq 1181 hC dL_law_1174 (by decide) (fun c1174 => ?_) (fun c1174 => ?_)
    · refine J_lconst (v := 0) hC dL_law_1181 (by decide) ?_
      refine J_lcmp hC dL_law_1182 ?_
      refine J_topI (show lg_cmp _ _ = 0 by rw [hr k0]; unfold okL; first | (rw [if_pos c1174]; exact lg_cmp_same _) | (rw [if_neg c1174]; exact lg_cmp_same _)) ?_
      refine J_if_eq 1188 hC dL_law_1183 (by decide) (fun c1183 => ?_) (fun c1183 => absurd rfl c1183)
      refine J_goto 1509 hC dL_law_1188 (by decide) ?_
      refine J_wd (cs' := cs + 370) (ss' := ss + 3800) (by omega) (by omega) ?_
      exact J_re [2, 3, 4, 5, 6] rfl (kk σ1 U (LIv.both hA1 ko no mx))
    · refine J_lconst (v := 1) hC dL_law_1177 (by decide) ?_
      refine J_goto 1182 hC dL_law_1178 (by decide) ?_
      refine J_lcmp hC dL_law_1182 ?_
      refine J_topI (show lg_cmp _ _ = 0 by rw [hr k0]; unfold okL; first | (rw [if_pos c1174]; exact lg_cmp_same _) | (rw [if_neg c1174]; exact lg_cmp_same _)) ?_
      refine J_if_eq 1188 hC dL_law_1183 (by decide) (fun c1183 => ?_) (fun c1183 => absurd rfl c1183)
      refine J_goto 1509 hC dL_law_1188 (by decide) ?_
      refine J_wd (cs' := cs + 370) (ss' := ss + 3800) (by omega) (by omega) ?_
      exact J_re [2, 3, 4, 5, 6] rfl (kk σ1 U (LIv.both hA1 ko no mx))

set_option maxHeartbeats 4000000 in
set_option maxRecDepth 100000 in
/-- the law's case 15 -/
theorem lc_count {X : JX} {G : JG} {Q : State → Prop} (hC : JCL X G) {b L : Nat} {zs : Nat → Int32} (hX : Scr X G b L zs) {x y o i : Nat} {σ : Sg} {S : HS} (hi : i + 6 ≤ L) (hL : L ≤ 3072) (hI : LIv G x y o σ S) {cs ss : Nat} (h1 : cs + 370 ≤ room_1.cells) (h2 : ss + 3800 ≤ room_1.slots) (kk : ∀ (σ' : Sg) (T : HS), LIv G x y o σ' T → J X G Q 9 (cs + 370) (ss + 3800) 1509 [(4, .int (nI i)), (3, .ref o), (2, .ref y), (1, .ref x), (0, .ref b)] [] T) : J X G Q 9 cs ss 1191 [(4, .int (nI i)), (3, .ref o), (2, .ref y), (1, .ref x), (0, .ref b)] [] S := by
  obtain ⟨hA, ⟨B, hB⟩, ho, hn⟩ := hI
  have n20 : vn σ ≤ 20 := hB.2.2.1.2.2.2.2.2.2.2.1
  refine J_aload_n 3 hC dL_law_1191 rfl rfl ?_
  refine J_aload_n 4 hC dL_law_1192 rfl rfl ?_
  refine J_iload 0 hC dL_law_1193 rfl ?_
  refine J_iconst (v := 1) hC dL_law_1195 (by decide) ?_
  refine J_iadd hC dL_law_1196 ?_
  refine J_sld hC hX (sc_in (c := 1) hi hL (by decide)) dL_law_1197 ?_
  refine J_aload_n 1 hC dL_law_1198 rfl rfl ?_
  refine cl_L_138 hC (w_count S x o σ hA ho hn _) (Nat.le_of_ble_eq_true rfl) ⟨⟨Nat.le_of_ble_eq_true rfl, Nat.le_of_ble_eq_true rfl⟩, by omega, by omega⟩ dL_law_1199 (fun k T e => ?_)
  obtain ⟨v, σ1, hP, hA1, hf, ko, no, hv⟩ := e
  refine J_istore (lv' := [(5, _), (4, _), (3, _), (2, _), (1, _), (0, _)]) hC dL_law_1202 (by decide) rfl ?_
  refine J_aload_n 3 hC dL_law_1204 rfl rfl ?_
  refine J_aload_n 5 hC dL_law_1205 rfl rfl ?_
  refine J_iload 1 hC dL_law_1206 rfl ?_
  refine J_iconst (v := 1) hC dL_law_1208 (by decide) ?_
  refine J_iadd hC dL_law_1209 ?_
  refine J_sld hC hX (sc_in (c := 1) hi hL (by decide)) dL_law_1210 ?_
  refine cl_L_140 hC (c_X6_count T y B σ (hf y B σ hB) _) (hf y B σ hB).1.ky (Nat.le_of_ble_eq_true rfl) ⟨⟨Nat.le_of_ble_eq_true rfl, Nat.le_of_ble_eq_true rfl⟩, by omega, by omega⟩ dL_law_1211 (fun r U e2 => ?_)
  obtain ⟨mx, hr⟩ := co_count n20 hP e2
  refine J_istore (lv' := [(6, _), (5, _), (4, _), (3, _), (2, _), (1, _), (0, _)]) hC dL_law_1214 (by decide) rfl ?_
  refine J_aload_n 4 hC dL_law_1216 rfl rfl ?_
  refine cl_L_89 hC (c_X6_thrown U y mx.1.1.ky) mx.1.1.ky (Nat.le_of_ble_eq_true rfl) ⟨⟨Nat.le_of_ble_eq_true rfl, Nat.le_of_ble_eq_true rfl⟩, by omega, by omega⟩ dL_law_1217 (fun r3 U3 e3 => ?_)
  obtain ⟨rfl, e3⟩ := e3
  subst U3
  refine J_topI mx.2.2 ?_
  refine J_iload 1 hC dL_law_1220 rfl ?_
  refine J_icmp_eq 1227 hC dL_law_1222 (by decide) (fun c1222 => ?_) (fun c1222 => absurd rfl c1222)
  refine J_iload 1 hC dL_law_1227 rfl ?_
  refine J_if_ne 1244 hC dL_law_1229 (by decide) (fun c1229 => ?_) (fun c1229 => ?_)
  · refine J_goto 1509 hC dL_law_1244 (by decide) ?_
    refine J_wd (cs' := cs + 370) (ss' := ss + 3800) (by omega) (by omega) ?_
    exact J_re [2, 3, 4, 5, 6] rfl (kk σ1 U (LIv.both hA1 ko no mx))
  · refine J_aload_n 3 hC dL_law_1232 rfl rfl ?_
    refine J_iconst (v := 0) hC dL_law_1233 (by decide) ?_
    refine J_lald hC (CSo mx ko) (inN (CSn mx ko no) (vp_in_nI (show 0 < 1 by decide) (by decide))) dL_law_1234 ?_
    have k0 : k = 0 := c1229
    refine J_topL (mx.hL ko (hv k0)) ?_
    refine J_iload 0 hC dL_law_1235 rfl ?_
    refine J_i2l hC dL_law_1237 ?_
    refine J_lcmp hC dL_law_1238 ?_
    refine J_topI (show lg_cmp _ _ = 0 by rw [hr k0]; exact lg_cmp_same _) ?_
    refine J_if_eq 1244 hC dL_law_1239 (by decide) (fun c1239 => ?_) (fun c1239 => absurd rfl c1239)
    refine J_goto 1509 hC dL_law_1244 (by decide) ?_
    refine J_wd (cs' := cs + 370) (ss' := ss + 3800) (by omega) (by omega) ?_
    exact J_re [2, 3, 4, 5, 6] rfl (kk σ1 U (LIv.both hA1 ko no mx))

set_option maxHeartbeats 4000000 in
set_option maxRecDepth 100000 in
/-- the law's case 16 -/
theorem lc_visits {X : JX} {G : JG} {Q : State → Prop} (hC : JCL X G) {b L : Nat} {zs : Nat → Int32} (hX : Scr X G b L zs) {x y o i : Nat} {σ : Sg} {S : HS} (hi : i + 6 ≤ L) (hL : L ≤ 3072) (hI : LIv G x y o σ S) {cs ss : Nat} (h1 : cs + 370 ≤ room_1.cells) (h2 : ss + 3800 ≤ room_1.slots) (kk : ∀ (σ' : Sg) (T : HS), LIv G x y o σ' T → J X G Q 9 (cs + 370) (ss + 3800) 1509 [(4, .int (nI i)), (3, .ref o), (2, .ref y), (1, .ref x), (0, .ref b)] [] T) : J X G Q 9 cs ss 1247 [(4, .int (nI i)), (3, .ref o), (2, .ref y), (1, .ref x), (0, .ref b)] [] S := by
  obtain ⟨hA, ⟨B, hB⟩, ho, hn⟩ := hI
  have n20 : vn σ ≤ 20 := hB.2.2.1.2.2.2.2.2.2.2.1
  obtain ⟨A, hA⟩ := hA
  refine J_aload_n 3 hC dL_law_1247 rfl rfl ?_
  refine cl_L_141 hC (c_X5_visits S x A σ hA) hA.1.kx (Nat.le_of_ble_eq_true rfl) ⟨⟨Nat.le_of_ble_eq_true rfl, Nat.le_of_ble_eq_true rfl⟩, by omega, by omega⟩ dL_law_1248 (fun r1 T e1 => ?_)
  obtain ⟨ci, fr, er⟩ := e1
  have hB2 := hB.frc fr
  have cs1 := CS.ok ci fr
  refine J_aload_n 2 hC dL_law_1251 rfl rfl ?_
  refine cl_L_144 hC (c_X6_visits T y B σ hB2) hB2.1.ky (Nat.le_of_ble_eq_true rfl) ⟨⟨Nat.le_of_ble_eq_true rfl, Nat.le_of_ble_eq_true rfl⟩, by omega, by omega⟩ dL_law_1252 (fun r2 U e2 => ?_)
  obtain ⟨er2, mx⟩ := e2
  subst er er2
  refine J_icmp_eq 1509 hC dL_law_1255 (by decide) (fun c1255 => ?_) (fun c1255 => absurd rfl c1255)
  refine J_wd (cs' := cs + 370) (ss' := ss + 3800) (by omega) (by omega) ?_
  exact J_re [0, 1, 2, 3, 4] rfl (kk σ U (LIv.both ⟨A, ci⟩ (cs1.ho ho) (cs1.hn ho hn) mx))

set_option maxHeartbeats 4000000 in
set_option maxRecDepth 100000 in
/-- the law's case 17 -/
theorem lc_visit {X : JX} {G : JG} {Q : State → Prop} (hC : JCL X G) {b L : Nat} {zs : Nat → Int32} (hX : Scr X G b L zs) {x y o i : Nat} {σ : Sg} {S : HS} (hi : i + 6 ≤ L) (hL : L ≤ 3072) (hI : LIv G x y o σ S) {cs ss : Nat} (h1 : cs + 370 ≤ room_1.cells) (h2 : ss + 3800 ≤ room_1.slots) (kk : ∀ (σ' : Sg) (T : HS), LIv G x y o σ' T → J X G Q 9 (cs + 370) (ss + 3800) 1509 [(4, .int (nI i)), (3, .ref o), (2, .ref y), (1, .ref x), (0, .ref b)] [] T) : J X G Q 9 cs ss 1260 [(4, .int (nI i)), (3, .ref o), (2, .ref y), (1, .ref x), (0, .ref b)] [] S := by
  obtain ⟨hA, ⟨B, hB⟩, ho, hn⟩ := hI
  have n20 : vn σ ≤ 20 := hB.2.2.1.2.2.2.2.2.2.2.1
  refine J_aload_n 3 hC dL_law_1260 rfl rfl ?_
  refine J_aload_n 4 hC dL_law_1261 rfl rfl ?_
  refine J_iload 0 hC dL_law_1262 rfl ?_
  refine J_iconst (v := 1) hC dL_law_1264 (by decide) ?_
  refine J_iadd hC dL_law_1265 ?_
  refine J_sld hC hX (sc_in (c := 1) hi hL (by decide)) dL_law_1266 ?_
  refine J_aload_n 4 hC dL_law_1267 rfl rfl ?_
  refine J_iload 0 hC dL_law_1268 rfl ?_
  refine J_iconst (v := 2) hC dL_law_1270 (by decide) ?_
  refine J_iadd hC dL_law_1271 ?_
  refine J_sld hC hX (sc_in (c := 2) hi hL (by decide)) dL_law_1272 ?_
  refine J_aload_n 1 hC dL_law_1273 rfl rfl ?_
  refine cl_L_145 hC (w_visit S x o σ hA ho hn _ _) (Nat.le_of_ble_eq_true rfl) ⟨⟨Nat.le_of_ble_eq_true rfl, Nat.le_of_ble_eq_true rfl⟩, by omega, by omega⟩ dL_law_1274 (fun k T e => ?_)
  obtain ⟨v, σ1, hP, hA1, hf, ko, no, hv⟩ := e
  refine J_istore (lv' := [(5, _), (4, _), (3, _), (2, _), (1, _), (0, _)]) hC dL_law_1277 (by decide) rfl ?_
  refine J_aload_n 3 hC dL_law_1279 rfl rfl ?_
  refine J_aload_n 5 hC dL_law_1280 rfl rfl ?_
  refine J_iload 1 hC dL_law_1281 rfl ?_
  refine J_iconst (v := 1) hC dL_law_1283 (by decide) ?_
  refine J_iadd hC dL_law_1284 ?_
  refine J_sld hC hX (sc_in (c := 1) hi hL (by decide)) dL_law_1285 ?_
  refine J_aload_n 5 hC dL_law_1286 rfl rfl ?_
  refine J_iload 1 hC dL_law_1287 rfl ?_
  refine J_iconst (v := 2) hC dL_law_1289 (by decide) ?_
  refine J_iadd hC dL_law_1290 ?_
  refine J_sld hC hX (sc_in (c := 2) hi hL (by decide)) dL_law_1291 ?_
  refine cl_L_147 hC (c_X6_visit T y B σ (hf y B σ hB) _ _) (hf y B σ hB).1.ky (Nat.le_of_ble_eq_true rfl) ⟨⟨Nat.le_of_ble_eq_true rfl, Nat.le_of_ble_eq_true rfl⟩, by omega, by omega⟩ dL_law_1292 (fun r U e2 => ?_)
  obtain ⟨mx, hr⟩ := co_visit n20 hP e2
  refine J_istore (lv' := [(6, _), (5, _), (4, _), (3, _), (2, _), (1, _), (0, _)]) hC dL_law_1295 (by decide) rfl ?_
  refine J_aload_n 4 hC dL_law_1297 rfl rfl ?_
  refine cl_L_89 hC (c_X6_thrown U y mx.1.1.ky) mx.1.1.ky (Nat.le_of_ble_eq_true rfl) ⟨⟨Nat.le_of_ble_eq_true rfl, Nat.le_of_ble_eq_true rfl⟩, by omega, by omega⟩ dL_law_1298 (fun r3 U3 e3 => ?_)
  obtain ⟨rfl, e3⟩ := e3
  subst U3
  refine J_topI mx.2.2 ?_
  refine J_iload 1 hC dL_law_1301 rfl ?_
  refine J_icmp_eq 1308 hC dL_law_1303 (by decide) (fun c1303 => ?_) (fun c1303 => absurd rfl c1303)
  refine J_iload 1 hC dL_law_1308 rfl ?_
  refine J_if_ne 1325 hC dL_law_1310 (by decide) (fun c1310 => ?_) (fun c1310 => ?_)
  · refine J_goto 1509 hC dL_law_1325 (by decide) ?_
    refine J_wd (cs' := cs + 370) (ss' := ss + 3800) (by omega) (by omega) ?_
    exact J_re [2, 3, 4, 5, 6] rfl (kk σ1 U (LIv.both hA1 ko no mx))
  · refine J_aload_n 3 hC dL_law_1313 rfl rfl ?_
    refine J_iconst (v := 0) hC dL_law_1314 (by decide) ?_
    refine J_lald hC (CSo mx ko) (inN (CSn mx ko no) (vp_in_nI (show 0 < 1 by decide) (by decide))) dL_law_1315 ?_
    have k0 : k = 0 := c1310
    refine J_topL (mx.hL ko (hv k0)) ?_
    refine J_iload 0 hC dL_law_1316 rfl ?_
    refine J_i2l hC dL_law_1318 ?_
    refine J_lcmp hC dL_law_1319 ?_
    refine J_topI (show lg_cmp _ _ = 0 by rw [hr k0]; exact lg_cmp_same _) ?_
    refine J_if_eq 1325 hC dL_law_1320 (by decide) (fun c1320 => ?_) (fun c1320 => absurd rfl c1320)
    refine J_goto 1509 hC dL_law_1325 (by decide) ?_
    refine J_wd (cs' := cs + 370) (ss' := ss + 3800) (by omega) (by omega) ?_
    exact J_re [2, 3, 4, 5, 6] rfl (kk σ1 U (LIv.both hA1 ko no mx))

set_option maxHeartbeats 4000000 in
set_option maxRecDepth 100000 in
/-- the law's case 18 -/
theorem lc_use {X : JX} {G : JG} {Q : State → Prop} (hC : JCL X G) {b L : Nat} {zs : Nat → Int32} (hX : Scr X G b L zs) {x y o i : Nat} {σ : Sg} {S : HS} (hi : i + 6 ≤ L) (hL : L ≤ 3072) (hI : LIv G x y o σ S) {cs ss : Nat} (h1 : cs + 370 ≤ room_1.cells) (h2 : ss + 3800 ≤ room_1.slots) (kk : ∀ (σ' : Sg) (T : HS), LIv G x y o σ' T → J X G Q 9 (cs + 370) (ss + 3800) 1509 [(4, .int (nI i)), (3, .ref o), (2, .ref y), (1, .ref x), (0, .ref b)] [] T) : J X G Q 9 cs ss 1328 [(4, .int (nI i)), (3, .ref o), (2, .ref y), (1, .ref x), (0, .ref b)] [] S := by
  obtain ⟨hA, ⟨B, hB⟩, ho, hn⟩ := hI
  have n20 : vn σ ≤ 20 := hB.2.2.1.2.2.2.2.2.2.2.1
  obtain ⟨A, hA⟩ := hA
  refine J_aload_n 3 hC dL_law_1328 rfl rfl ?_
  refine cl_L_148 hC (c_X5_use S x A σ hA) hA.1.kx (Nat.le_of_ble_eq_true rfl) ⟨⟨Nat.le_of_ble_eq_true rfl, Nat.le_of_ble_eq_true rfl⟩, by omega, by omega⟩ dL_law_1329 (fun r1 T e1 => ?_)
  obtain ⟨ci, fr, er⟩ := e1
  have hB2 := hB.frc fr
  have cs1 := CS.ok ci fr
  refine J_dstore (lv' := [(5, _), (4, _), (3, _), (2, _), (1, _), (0, _)]) hC dL_law_1332 (by decide) rfl ?_
  refine J_aload_n 3 hC dL_law_1334 rfl rfl ?_
  refine cl_L_152 hC (c_X6_use T y B σ hB2) hB2.1.ky (Nat.le_of_ble_eq_true rfl) ⟨⟨Nat.le_of_ble_eq_true rfl, Nat.le_of_ble_eq_true rfl⟩, by omega, by omega⟩ dL_law_1335 (fun r2 U e2 => ?_)
  obtain ⟨er2, mx⟩ := e2
  subst er er2
  refine J_dstore (lv' := [(7, _), (5, _), (4, _), (3, _), (2, _), (1, _), (0, _)]) hC dL_law_1338 (by decide) rfl ?_
  refine J_dload 1 hC dL_law_1340 rfl ?_
  refine J_dload 0 hC dL_law_1342 rfl ?_
  refine J_dcmp hC dL_law_1344 ?_
  refine J_if_eq 1366 hC dL_law_1345 (by decide) (fun c1345 => ?_) (fun c1345 => ?_)
  · refine J_goto 1509 hC dL_law_1366 (by decide) ?_
    refine J_wd (cs' := cs + 370) (ss' := ss + 3800) (by omega) (by omega) ?_
    exact J_re [2, 3, 4, 5, 6] rfl (kk σ U (LIv.both ⟨A, ci⟩ (cs1.ho ho) (cs1.hn ho hn) mx))
  · refine J_dload 1 hC dL_law_1348 rfl ?_
    refine J_dload 1 hC dL_law_1350 rfl ?_
    refine J_dcmp hC dL_law_1352 ?_
    refine J_if_eq 1364 hC dL_law_1353 (by decide) (fun c1353 => absurd c1353 c1345) (fun c1353 => ?_)
    refine J_dload 0 hC dL_law_1356 rfl ?_
    refine J_dload 0 hC dL_law_1358 rfl ?_
    refine J_dcmp hC dL_law_1360 ?_
    refine J_if_ne 1366 hC dL_law_1361 (by decide) (fun c1361 => ?_) (fun c1361 => absurd c1361 c1345)
    refine J_goto 1509 hC dL_law_1366 (by decide) ?_
    refine J_wd (cs' := cs + 370) (ss' := ss + 3800) (by omega) (by omega) ?_
    exact J_re [2, 3, 4, 5, 6] rfl (kk σ U (LIv.both ⟨A, ci⟩ (cs1.ho ho) (cs1.hn ho hn) mx))

set_option maxHeartbeats 4000000 in
set_option maxRecDepth 100000 in
/-- the law's case 19 -/
theorem lc_observe {X : JX} {G : JG} {Q : State → Prop} (hC : JCL X G) {b L : Nat} {zs : Nat → Int32} (hX : Scr X G b L zs) {x y o i : Nat} {σ : Sg} {S : HS} (hi : i + 6 ≤ L) (hL : L ≤ 3072) (hI : LIv G x y o σ S) {cs ss : Nat} (h1 : cs + 370 ≤ room_1.cells) (h2 : ss + 3800 ≤ room_1.slots) (kk : ∀ (σ' : Sg) (T : HS), LIv G x y o σ' T → J X G Q 9 (cs + 370) (ss + 3800) 1509 [(4, .int (nI i)), (3, .ref o), (2, .ref y), (1, .ref x), (0, .ref b)] [] T) : J X G Q 9 cs ss 1369 [(4, .int (nI i)), (3, .ref o), (2, .ref y), (1, .ref x), (0, .ref b)] [] S := by
  obtain ⟨hA, ⟨B, hB⟩, ho, hn⟩ := hI
  have n20 : vn σ ≤ 20 := hB.2.2.1.2.2.2.2.2.2.2.1
  refine J_aload_n 3 hC dL_law_1369 rfl rfl ?_
  refine J_aload_n 1 hC dL_law_1370 rfl rfl ?_
  refine cl_L_153 hC (w_observe S x o σ hA ho hn) (Nat.le_of_ble_eq_true rfl) ⟨⟨Nat.le_of_ble_eq_true rfl, Nat.le_of_ble_eq_true rfl⟩, by omega, by omega⟩ dL_law_1371 (fun k T e => ?_)
  obtain ⟨v, σ1, hP, hA1, hf, ko, no, hv⟩ := e
  refine J_istore (lv' := [(5, _), (4, _), (3, _), (2, _), (1, _), (0, _)]) hC dL_law_1374 (by decide) rfl ?_
  refine J_aload_n 3 hC dL_law_1376 rfl rfl ?_
  refine cl_L_156 hC (c_X6_observe T y B σ (hf y B σ hB)) (hf y B σ hB).1.ky (Nat.le_of_ble_eq_true rfl) ⟨⟨Nat.le_of_ble_eq_true rfl, Nat.le_of_ble_eq_true rfl⟩, by omega, by omega⟩ dL_law_1377 (fun r U e2 => ?_)
  obtain ⟨mx, hr⟩ := co_observe n20 hP e2
  refine J_istore (lv' := [(6, _), (5, _), (4, _), (3, _), (2, _), (1, _), (0, _)]) hC dL_law_1380 (by decide) rfl ?_
  refine J_aload_n 4 hC dL_law_1382 rfl rfl ?_
  refine cl_L_89 hC (c_X6_thrown U y mx.1.1.ky) mx.1.1.ky (Nat.le_of_ble_eq_true rfl) ⟨⟨Nat.le_of_ble_eq_true rfl, Nat.le_of_ble_eq_true rfl⟩, by omega, by omega⟩ dL_law_1383 (fun r3 U3 e3 => ?_)
  obtain ⟨rfl, e3⟩ := e3
  subst U3
  refine J_topI mx.2.2 ?_
  refine J_iload 1 hC dL_law_1386 rfl ?_
  refine J_icmp_eq 1393 hC dL_law_1388 (by decide) (fun c1388 => ?_) (fun c1388 => absurd rfl c1388)
  refine J_iload 1 hC dL_law_1393 rfl ?_
  refine J_if_ne 1410 hC dL_law_1395 (by decide) (fun c1395 => ?_) (fun c1395 => ?_)
  · refine J_goto 1509 hC dL_law_1410 (by decide) ?_
    refine J_wd (cs' := cs + 370) (ss' := ss + 3800) (by omega) (by omega) ?_
    exact J_re [2, 3, 4, 5, 6] rfl (kk σ1 U (LIv.both hA1 ko no mx))
  · refine J_aload_n 3 hC dL_law_1398 rfl rfl ?_
    refine J_iconst (v := 0) hC dL_law_1399 (by decide) ?_
    refine J_lald hC (CSo mx ko) (inN (CSn mx ko no) (vp_in_nI (show 0 < 1 by decide) (by decide))) dL_law_1400 ?_
    have k0 : k = 0 := c1395
    refine J_topL (mx.hL ko (hv k0)) ?_
    refine J_iload 0 hC dL_law_1401 rfl ?_
    refine J_i2l hC dL_law_1403 ?_
    refine J_lcmp hC dL_law_1404 ?_
    refine J_topI (show lg_cmp _ _ = 0 by rw [hr k0]; exact lg_cmp_same _) ?_
    refine J_if_eq 1410 hC dL_law_1405 (by decide) (fun c1405 => ?_) (fun c1405 => absurd rfl c1405)
    refine J_goto 1509 hC dL_law_1410 (by decide) ?_
    refine J_wd (cs' := cs + 370) (ss' := ss + 3800) (by omega) (by omega) ?_
    exact J_re [2, 3, 4, 5, 6] rfl (kk σ1 U (LIv.both hA1 ko no mx))

set_option maxHeartbeats 4000000 in
set_option maxRecDepth 100000 in
/-- the law's case 20 -/
theorem lc_pass {X : JX} {G : JG} {Q : State → Prop} (hC : JCL X G) {b L : Nat} {zs : Nat → Int32} (hX : Scr X G b L zs) {x y o i : Nat} {σ : Sg} {S : HS} (hi : i + 6 ≤ L) (hL : L ≤ 3072) (hI : LIv G x y o σ S) {cs ss : Nat} (h1 : cs + 370 ≤ room_1.cells) (h2 : ss + 3800 ≤ room_1.slots) (kk : ∀ (σ' : Sg) (T : HS), LIv G x y o σ' T → J X G Q 9 (cs + 370) (ss + 3800) 1509 [(4, .int (nI i)), (3, .ref o), (2, .ref y), (1, .ref x), (0, .ref b)] [] T) : J X G Q 9 cs ss 1413 [(4, .int (nI i)), (3, .ref o), (2, .ref y), (1, .ref x), (0, .ref b)] [] S := by
  obtain ⟨hA, ⟨B, hB⟩, ho, hn⟩ := hI
  have n20 : vn σ ≤ 20 := hB.2.2.1.2.2.2.2.2.2.2.1
  refine J_aload_n 3 hC dL_law_1413 rfl rfl ?_
  refine J_aload_n 4 hC dL_law_1414 rfl rfl ?_
  refine J_iload 0 hC dL_law_1415 rfl ?_
  refine J_iconst (v := 1) hC dL_law_1417 (by decide) ?_
  refine J_iadd hC dL_law_1418 ?_
  refine J_sld hC hX (sc_in (c := 1) hi hL (by decide)) dL_law_1419 ?_
  refine J_aload_n 1 hC dL_law_1420 rfl rfl ?_
  refine cl_L_157 hC (w_pass S x o σ hA ho hn _) (Nat.le_of_ble_eq_true rfl) ⟨⟨Nat.le_of_ble_eq_true rfl, Nat.le_of_ble_eq_true rfl⟩, by omega, by omega⟩ dL_law_1421 (fun k T e => ?_)
  obtain ⟨v, σ1, hP, hA1, hf, ko, no, hv⟩ := e
  refine J_istore (lv' := [(5, _), (4, _), (3, _), (2, _), (1, _), (0, _)]) hC dL_law_1424 (by decide) rfl ?_
  refine J_aload_n 3 hC dL_law_1426 rfl rfl ?_
  refine J_aload_n 5 hC dL_law_1427 rfl rfl ?_
  refine J_iload 1 hC dL_law_1428 rfl ?_
  refine J_iconst (v := 1) hC dL_law_1430 (by decide) ?_
  refine J_iadd hC dL_law_1431 ?_
  refine J_sld hC hX (sc_in (c := 1) hi hL (by decide)) dL_law_1432 ?_
  refine cl_L_159 hC (c_X6_pass T y B σ (hf y B σ hB) _) (hf y B σ hB).1.ky (Nat.le_of_ble_eq_true rfl) ⟨⟨Nat.le_of_ble_eq_true rfl, Nat.le_of_ble_eq_true rfl⟩, by omega, by omega⟩ dL_law_1433 (fun r U e2 => ?_)
  obtain ⟨mx, hr⟩ := co_pass n20 hP e2
  refine J_istore (lv' := [(6, _), (5, _), (4, _), (3, _), (2, _), (1, _), (0, _)]) hC dL_law_1436 (by decide) rfl ?_
  refine J_aload_n 4 hC dL_law_1438 rfl rfl ?_
  refine cl_L_89 hC (c_X6_thrown U y mx.1.1.ky) mx.1.1.ky (Nat.le_of_ble_eq_true rfl) ⟨⟨Nat.le_of_ble_eq_true rfl, Nat.le_of_ble_eq_true rfl⟩, by omega, by omega⟩ dL_law_1439 (fun r3 U3 e3 => ?_)
  obtain ⟨rfl, e3⟩ := e3
  subst U3
  refine J_topI mx.2.2 ?_
  refine J_iload 1 hC dL_law_1442 rfl ?_
  refine J_icmp_eq 1449 hC dL_law_1444 (by decide) (fun c1444 => ?_) (fun c1444 => absurd rfl c1444)
  refine J_iload 1 hC dL_law_1449 rfl ?_
  refine J_if_ne 1466 hC dL_law_1451 (by decide) (fun c1451 => ?_) (fun c1451 => ?_)
  · refine J_goto 1509 hC dL_law_1466 (by decide) ?_
    refine J_wd (cs' := cs + 370) (ss' := ss + 3800) (by omega) (by omega) ?_
    exact J_re [2, 3, 4, 5, 6] rfl (kk σ1 U (LIv.both hA1 ko no mx))
  · refine J_aload_n 3 hC dL_law_1454 rfl rfl ?_
    refine J_iconst (v := 0) hC dL_law_1455 (by decide) ?_
    refine J_lald hC (CSo mx ko) (inN (CSn mx ko no) (vp_in_nI (show 0 < 1 by decide) (by decide))) dL_law_1456 ?_
    have k0 : k = 0 := c1451
    refine J_topL (mx.hL ko (hv k0)) ?_
    refine J_iload 0 hC dL_law_1457 rfl ?_
    refine J_i2l hC dL_law_1459 ?_
    refine J_lcmp hC dL_law_1460 ?_
    refine J_topI (show lg_cmp _ _ = 0 by rw [hr k0]; exact lg_cmp_same _) ?_
    refine J_if_eq 1466 hC dL_law_1461 (by decide) (fun c1461 => ?_) (fun c1461 => absurd rfl c1461)
    refine J_goto 1509 hC dL_law_1466 (by decide) ?_
    refine J_wd (cs' := cs + 370) (ss' := ss + 3800) (by omega) (by omega) ?_
    exact J_re [2, 3, 4, 5, 6] rfl (kk σ1 U (LIv.both hA1 ko no mx))

set_option maxHeartbeats 4000000 in
set_option maxRecDepth 100000 in
/-- the law's case 21 -/
theorem lc_night {X : JX} {G : JG} {Q : State → Prop} (hC : JCL X G) {b L : Nat} {zs : Nat → Int32} (hX : Scr X G b L zs) {x y o i : Nat} {σ : Sg} {S : HS} (hi : i + 6 ≤ L) (hL : L ≤ 3072) (hI : LIv G x y o σ S) {cs ss : Nat} (h1 : cs + 370 ≤ room_1.cells) (h2 : ss + 3800 ≤ room_1.slots) (kk : ∀ (σ' : Sg) (T : HS), LIv G x y o σ' T → J X G Q 9 (cs + 370) (ss + 3800) 1509 [(4, .int (nI i)), (3, .ref o), (2, .ref y), (1, .ref x), (0, .ref b)] [] T) : J X G Q 9 cs ss 1469 [(4, .int (nI i)), (3, .ref o), (2, .ref y), (1, .ref x), (0, .ref b)] [] S := by
  obtain ⟨hA, ⟨B, hB⟩, ho, hn⟩ := hI
  have n20 : vn σ ≤ 20 := hB.2.2.1.2.2.2.2.2.2.2.1
  obtain ⟨A, hA⟩ := hA
  refine J_aload_n 3 hC dL_law_1469 rfl rfl ?_
  refine cl_L_160 hC (c_X5_night S x A σ hA) hA.1.kx (Nat.le_of_ble_eq_true rfl) ⟨⟨Nat.le_of_ble_eq_true rfl, Nat.le_of_ble_eq_true rfl⟩, by omega, by omega⟩ dL_law_1470 (fun r1 T e1 => ?_)
  obtain ⟨er, eT⟩ := e1
  subst T
  refine J_aload_n 2 hC dL_law_1473 rfl rfl ?_
  refine cl_L_163 hC (c_X6_night S y B σ hB) hB.1.ky (Nat.le_of_ble_eq_true rfl) ⟨⟨Nat.le_of_ble_eq_true rfl, Nat.le_of_ble_eq_true rfl⟩, by omega, by omega⟩ dL_law_1474 (fun r2 U e2 => ?_)
  obtain ⟨er2, mx⟩ := e2
  subst er er2
  refine J_icmp_eq 1509 hC dL_law_1477 (by decide) (fun c1477 => ?_) (fun c1477 => absurd rfl c1477)
  refine J_wd (cs' := cs + 370) (ss' := ss + 3800) (by omega) (by omega) ?_
  exact J_re [0, 1, 2, 3, 4] rfl (kk σ U (LIv.both ⟨A, hA⟩ ho hn mx))

set_option maxHeartbeats 4000000 in
set_option maxRecDepth 100000 in
/-- the law's case 22 -/
theorem lc_light {X : JX} {G : JG} {Q : State → Prop} (hC : JCL X G) {b L : Nat} {zs : Nat → Int32} (hX : Scr X G b L zs) {x y o i : Nat} {σ : Sg} {S : HS} (hi : i + 6 ≤ L) (hL : L ≤ 3072) (hI : LIv G x y o σ S) {cs ss : Nat} (h1 : cs + 370 ≤ room_1.cells) (h2 : ss + 3800 ≤ room_1.slots) (kk : ∀ (σ' : Sg) (T : HS), LIv G x y o σ' T → J X G Q 9 (cs + 370) (ss + 3800) 1509 [(4, .int (nI i)), (3, .ref o), (2, .ref y), (1, .ref x), (0, .ref b)] [] T) : J X G Q 9 cs ss 1482 [(4, .int (nI i)), (3, .ref o), (2, .ref y), (1, .ref x), (0, .ref b)] [] S := by
  obtain ⟨hA, ⟨B, hB⟩, ho, hn⟩ := hI
  have n20 : vn σ ≤ 20 := hB.2.2.1.2.2.2.2.2.2.2.1
  obtain ⟨A, hA⟩ := hA
  refine J_aload_n 3 hC dL_law_1482 rfl rfl ?_
  refine cl_L_164 hC (c_X5_light S x A σ hA) hA.1.kx (Nat.le_of_ble_eq_true rfl) ⟨⟨Nat.le_of_ble_eq_true rfl, Nat.le_of_ble_eq_true rfl⟩, by omega, by omega⟩ dL_law_1483 (fun r1 T e1 => ?_)
  obtain ⟨er, eT⟩ := e1
  subst T
  refine J_aload_n 2 hC dL_law_1486 rfl rfl ?_
  refine cl_L_167 hC (c_X6_light S y B σ hB) hB.1.ky (Nat.le_of_ble_eq_true rfl) ⟨⟨Nat.le_of_ble_eq_true rfl, Nat.le_of_ble_eq_true rfl⟩, by omega, by omega⟩ dL_law_1487 (fun r2 U e2 => ?_)
  obtain ⟨er2, mx⟩ := e2
  subst er er2
  refine J_icmp_eq 1509 hC dL_law_1490 (by decide) (fun c1490 => ?_) (fun c1490 => absurd rfl c1490)
  refine J_wd (cs' := cs + 370) (ss' := ss + 3800) (by omega) (by omega) ?_
  exact J_re [0, 1, 2, 3, 4] rfl (kk σ U (LIv.both ⟨A, hA⟩ ho hn mx))

set_option maxHeartbeats 4000000 in
set_option maxRecDepth 100000 in
/-- the law's case 23 -/
theorem lc_digest {X : JX} {G : JG} {Q : State → Prop} (hC : JCL X G) {b L : Nat} {zs : Nat → Int32} (hX : Scr X G b L zs) {x y o i : Nat} {σ : Sg} {S : HS} (hi : i + 6 ≤ L) (hL : L ≤ 3072) (hI : LIv G x y o σ S) {cs ss : Nat} (h1 : cs + 370 ≤ room_1.cells) (h2 : ss + 3800 ≤ room_1.slots) (kk : ∀ (σ' : Sg) (T : HS), LIv G x y o σ' T → J X G Q 9 (cs + 370) (ss + 3800) 1509 [(4, .int (nI i)), (3, .ref o), (2, .ref y), (1, .ref x), (0, .ref b)] [] T) : J X G Q 9 cs ss 1495 [(4, .int (nI i)), (3, .ref o), (2, .ref y), (1, .ref x), (0, .ref b)] [] S := by
  obtain ⟨hA, ⟨B, hB⟩, ho, hn⟩ := hI
  have n20 : vn σ ≤ 20 := hB.2.2.1.2.2.2.2.2.2.2.1
  obtain ⟨A, hA⟩ := hA
  refine J_aload_n 3 hC dL_law_1495 rfl rfl ?_
  refine cl_L_168 hC (c_X5_digest S x A σ hA) hA.1.kx (Nat.le_of_ble_eq_true rfl) ⟨⟨Nat.le_of_ble_eq_true rfl, Nat.le_of_ble_eq_true rfl⟩, by omega, by omega⟩ dL_law_1496 (fun r1 T e1 => ?_)
  obtain ⟨ci, fr, er⟩ := e1
  have hB2 := hB.frc fr
  have cs1 := CS.ok ci fr
  refine J_aload_n 2 hC dL_law_1499 rfl rfl ?_
  refine cl_L_172 hC (c_X6_digest T y B σ hB2) hB2.1.ky (Nat.le_of_ble_eq_true rfl) ⟨⟨Nat.le_of_ble_eq_true rfl, Nat.le_of_ble_eq_true rfl⟩, by omega, by omega⟩ dL_law_1500 (fun r2 U e2 => ?_)
  obtain ⟨er2, mx⟩ := e2
  subst er er2
  refine J_lcmp hC dL_law_1503 ?_
  refine J_topI (lg_cmp_same _) ?_
  refine J_if_eq 1509 hC dL_law_1504 (by decide) (fun c1504 => ?_) (fun c1504 => absurd rfl c1504)
  refine J_wd (cs' := cs + 370) (ss' := ss + 3800) (by omega) (by omega) ?_
  exact J_re [0, 1, 2, 3, 4] rfl (kk σ U (LIv.both ⟨A, ci⟩ (cs1.ho ho) (cs1.hn ho hn) mx))
