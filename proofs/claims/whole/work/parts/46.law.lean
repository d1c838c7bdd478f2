theorem lw_ix {SL i : Nat} (hSL : SL ≤ 384) (hi : i ≤ SL + 5) : (nI SL - 6 < nI i) ↔ SL < i + 6 := by
  have e : (nI SL - 6).toInt = (SL : Int) - 6 := by
    rw [Int32.toInt_sub, nI_toInt (by omega)]
    have : (6 : Int32).toInt = 6 := rfl
    rw [this]
    simp only [Int.bmod_def]
    omega
  rw [i32_lt, e, nI_toInt (by omega)]; omega
theorem st_L_row {SL d : Nat} {Q : Option Int32 → m_G → Prop} (hSL : SL ≤ 384) {i : Nat} (hi : i + 6 ≤ SL) {g : m_G} {a : a_S} (hA : a_OK a) (hC : C_R g a) (hM : M_R g a) (hKS : K_S g) (kk : ∀ g3 a3, a_OK a3 → C_R g3 a3 → M_R g3 a3 → K_S g3 → Sim SL (d + 9) yL_law cL_law 4 (some .boolean) 1300 [.ref 200, .ref 0, .ref 78, .int (nI i)] [] g3 Q) : Sim SL (d + 9) yL_law cL_law 4 (some .boolean) 192 [.ref 200, .ref 0, .ref 78, .int (nI i)] [] g Q := by
  refine s_aload_n (n := 193) dL_law_192 rfl rfl rfl ?_
  refine s_aload_n (n := 194) dL_law_193 rfl rfl rfl ?_
  refine s_iload_n (n := 195) dL_law_194 rfl rfl rfl ?_
  refine s_iconst (v := 1) (n := 196) dL_law_195 rfl (by decide) ?_
  refine s_iadd (n := 197) dL_law_196 rfl ?_
  refine s_tload (i + 1) (n := 198) dL_law_197 rfl (List.mem_of_getElem? (i := 0) rfl) (by omega) (by rw [show (1 : Int32) = nI 1 from rfl, nI_add]) (by omega) ?_
  refine s_aload_n (n := 199) dL_law_198 rfl rfl rfl ?_
  refine s_iload_n (n := 200) dL_law_199 rfl rfl rfl ?_
  refine s_iconst (v := 2) (n := 201) dL_law_200 rfl (by decide) ?_
  refine s_iadd (n := 202) dL_law_201 rfl ?_
  refine s_tload (i + 2) (n := 203) dL_law_202 rfl (List.mem_of_getElem? (i := 0) rfl) (by omega) (by rw [show (2 : Int32) = nI 2 from rfl, nI_add]) (by omega) ?_
  refine s_aload_n (n := 204) dL_law_203 rfl rfl rfl ?_
  refine s_iload_n (n := 205) dL_law_204 rfl rfl rfl ?_
  refine s_iconst (v := 3) (n := 206) dL_law_205 rfl (by decide) ?_
  refine s_iadd (n := 207) dL_law_206 rfl ?_
  refine s_tload (i + 3) (n := 208) dL_law_207 rfl (List.mem_of_getElem? (i := 0) rfl) (by omega) (by rw [show (3 : Int32) = nI 3 from rfl, nI_add]) (by omega) ?_
  refine s_cv3 (n := 211) dL_law_208 rfl mo_X8_row ml_L_13 rfl (by decide) rfl rfl (Nat.le_of_ble_eq_true rfl) (Nat.le_of_ble_eq_true rfl) (s_less (by omega) (C_row (d := 0) hA hC _ _ _ (fun g2 hC2 hF2 => ?_)))
  have e200 : g2 200 = g 200 := hF2 200 (by decide)
  dsimp only [m_push]
  refine s_aload_n (n := 212) dL_law_211 rfl rfl rfl ?_
  refine s_aload_n (n := 213) dL_law_212 rfl rfl rfl ?_
  refine s_iload_n (n := 214) dL_law_213 rfl rfl rfl ?_
  refine s_iconst (v := 1) (n := 215) dL_law_214 rfl (by decide) ?_
  refine s_iadd (n := 216) dL_law_215 rfl ?_
  refine s_tload (i + 1) (n := 217) dL_law_216 rfl (List.mem_of_getElem? (i := 0) rfl) (by omega) (by rw [show (1 : Int32) = nI 1 from rfl, nI_add]) (by omega) ?_
  refine s_aload_n (n := 218) dL_law_217 rfl rfl rfl ?_
  refine s_iload_n (n := 219) dL_law_218 rfl rfl rfl ?_
  refine s_iconst (v := 2) (n := 220) dL_law_219 rfl (by decide) ?_
  refine s_iadd (n := 221) dL_law_220 rfl ?_
  refine s_tload (i + 2) (n := 222) dL_law_221 rfl (List.mem_of_getElem? (i := 0) rfl) (by omega) (by rw [show (2 : Int32) = nI 2 from rfl, nI_add]) (by omega) ?_
  refine s_aload_n (n := 223) dL_law_222 rfl rfl rfl ?_
  refine s_iload_n (n := 224) dL_law_223 rfl rfl rfl ?_
  refine s_iconst (v := 3) (n := 225) dL_law_224 rfl (by decide) ?_
  refine s_iadd (n := 226) dL_law_225 rfl ?_
  refine s_tload (i + 3) (n := 227) dL_law_226 rfl (List.mem_of_getElem? (i := 0) rfl) (by omega) (by rw [show (3 : Int32) = nI 3 from rfl, nI_add]) (by omega) ?_
  rw [e200]
  refine s_cv3 (n := 230) dL_law_227 rfl mo_X9_row ml_L_17 rfl (by decide) rfl rfl (Nat.le_of_ble_eq_true rfl) (Nat.le_of_ble_eq_true rfl) (s_less (by omega) (M_row (d := 0) hA (hM.fc hF2) _ _ _ (fun g3 hM3 hF3 => ?_)))
  dsimp only [m_push]
  refine s_icmp_eq (n := 233) (t := 1300) dL_law_230 (by decide) rfl (fun h230 => ?_) (fun h230 => ?_)
  · exact kk g3 _ (ok_row hA _ _ _) (hC2.fm hF3) hM3 ((hKS.c hF2).m hF3)
  · exact absurd rfl h230
theorem st_L_set {SL d : Nat} {Q : Option Int32 → m_G → Prop} (hSL : SL ≤ 384) {i : Nat} (hi : i + 6 ≤ SL) {g : m_G} {a : a_S} (hA : a_OK a) (hC : C_R g a) (hM : M_R g a) (hKS : K_S g) (kk : ∀ g3 a3, a_OK a3 → C_R g3 a3 → M_R g3 a3 → K_S g3 → Sim SL (d + 9) yL_law cL_law 4 (some .boolean) 1300 [.ref 200, .ref 0, .ref 78, .int (nI i)] [] g3 Q) : Sim SL (d + 9) yL_law cL_law 4 (some .boolean) 235 [.ref 200, .ref 0, .ref 78, .int (nI i)] [] g Q := by
  refine s_aload_n (n := 236) dL_law_235 rfl rfl rfl ?_
  refine s_aload_n (n := 237) dL_law_236 rfl rfl rfl ?_
  refine s_iload_n (n := 238) dL_law_237 rfl rfl rfl ?_
  refine s_iconst (v := 1) (n := 239) dL_law_238 rfl (by decide) ?_
  refine s_iadd (n := 240) dL_law_239 rfl ?_
  refine s_tload (i + 1) (n := 241) dL_law_240 rfl (List.mem_of_getElem? (i := 0) rfl) (by omega) (by rw [show (1 : Int32) = nI 1 from rfl, nI_add]) (by omega) ?_
  refine s_aload_n (n := 242) dL_law_241 rfl rfl rfl ?_
  refine s_iload_n (n := 243) dL_law_242 rfl rfl rfl ?_
  refine s_iconst (v := 2) (n := 244) dL_law_243 rfl (by decide) ?_
  refine s_iadd (n := 245) dL_law_244 rfl ?_
  refine s_tload (i + 2) (n := 246) dL_law_245 rfl (List.mem_of_getElem? (i := 0) rfl) (by omega) (by rw [show (2 : Int32) = nI 2 from rfl, nI_add]) (by omega) ?_
  refine s_aload_n (n := 247) dL_law_246 rfl rfl rfl ?_
  refine s_iload_n (n := 248) dL_law_247 rfl rfl rfl ?_
  refine s_iconst (v := 3) (n := 249) dL_law_248 rfl (by decide) ?_
  refine s_iadd (n := 250) dL_law_249 rfl ?_
  refine s_tload (i + 3) (n := 251) dL_law_250 rfl (List.mem_of_getElem? (i := 0) rfl) (by omega) (by rw [show (3 : Int32) = nI 3 from rfl, nI_add]) (by omega) ?_
  refine s_cv3 (n := 254) dL_law_251 rfl mo_X8_set ml_L_18 rfl (by decide) rfl rfl (Nat.le_of_ble_eq_true rfl) (Nat.le_of_ble_eq_true rfl) (s_less (by omega) (C_set (d := 0) hA hC _ _ _ (fun g2 hC2 hF2 => ?_)))
  have e200 : g2 200 = g 200 := hF2 200 (by decide)
  dsimp only [m_push]
  refine s_aload_n (n := 255) dL_law_254 rfl rfl rfl ?_
  refine s_aload_n (n := 256) dL_law_255 rfl rfl rfl ?_
  refine s_iload_n (n := 257) dL_law_256 rfl rfl rfl ?_
  refine s_iconst (v := 1) (n := 258) dL_law_257 rfl (by decide) ?_
  refine s_iadd (n := 259) dL_law_258 rfl ?_
  refine s_tload (i + 1) (n := 260) dL_law_259 rfl (List.mem_of_getElem? (i := 0) rfl) (by omega) (by rw [show (1 : Int32) = nI 1 from rfl, nI_add]) (by omega) ?_
  refine s_aload_n (n := 261) dL_law_260 rfl rfl rfl ?_
  refine s_iload_n (n := 262) dL_law_261 rfl rfl rfl ?_
  refine s_iconst (v := 2) (n := 263) dL_law_262 rfl (by decide) ?_
  refine s_iadd (n := 264) dL_law_263 rfl ?_
  refine s_tload (i + 2) (n := 265) dL_law_264 rfl (List.mem_of_getElem? (i := 0) rfl) (by omega) (by rw [show (2 : Int32) = nI 2 from rfl, nI_add]) (by omega) ?_
  refine s_aload_n (n := 266) dL_law_265 rfl rfl rfl ?_
  refine s_iload_n (n := 267) dL_law_266 rfl rfl rfl ?_
  refine s_iconst (v := 3) (n := 268) dL_law_267 rfl (by decide) ?_
  refine s_iadd (n := 269) dL_law_268 rfl ?_
  refine s_tload (i + 3) (n := 270) dL_law_269 rfl (List.mem_of_getElem? (i := 0) rfl) (by omega) (by rw [show (3 : Int32) = nI 3 from rfl, nI_add]) (by omega) ?_
  rw [e200]
  refine s_cv3 (n := 273) dL_law_270 rfl mo_X9_set ml_L_21 rfl (by decide) rfl rfl (Nat.le_of_ble_eq_true rfl) (Nat.le_of_ble_eq_true rfl) (s_less (by omega) (M_set (d := 0) hA (hM.fc hF2) _ _ _ (fun g3 hM3 hF3 => ?_)))
  dsimp only [m_push]
  refine s_icmp_eq (n := 276) (t := 1300) dL_law_273 (by decide) rfl (fun h273 => ?_) (fun h273 => ?_)
  · exact kk g3 _ (ok_set hA _ _ _) (hC2.fm hF3) hM3 ((hKS.c hF2).m hF3)
  · exact absurd rfl h273
theorem st_L_copy {SL d : Nat} {Q : Option Int32 → m_G → Prop} (hSL : SL ≤ 384) {i : Nat} (hi : i + 6 ≤ SL) {g : m_G} {a : a_S} (hA : a_OK a) (hC : C_R g a) (hM : M_R g a) (hKS : K_S g) (kk : ∀ g3 a3, a_OK a3 → C_R g3 a3 → M_R g3 a3 → K_S g3 → Sim SL (d + 9) yL_law cL_law 4 (some .boolean) 1300 [.ref 200, .ref 0, .ref 78, .int (nI i)] [] g3 Q) : Sim SL (d + 9) yL_law cL_law 4 (some .boolean) 278 [.ref 200, .ref 0, .ref 78, .int (nI i)] [] g Q := by
  refine s_aload_n (n := 279) dL_law_278 rfl rfl rfl ?_
  refine s_aload_n (n := 280) dL_law_279 rfl rfl rfl ?_
  refine s_iload_n (n := 281) dL_law_280 rfl rfl rfl ?_
  refine s_iconst (v := 1) (n := 282) dL_law_281 rfl (by decide) ?_
  refine s_iadd (n := 283) dL_law_282 rfl ?_
  refine s_tload (i + 1) (n := 284) dL_law_283 rfl (List.mem_of_getElem? (i := 0) rfl) (by omega) (by rw [show (1 : Int32) = nI 1 from rfl, nI_add]) (by omega) ?_
  refine s_aload_n (n := 285) dL_law_284 rfl rfl rfl ?_
  refine s_iload_n (n := 286) dL_law_285 rfl rfl rfl ?_
  refine s_iconst (v := 2) (n := 287) dL_law_286 rfl (by decide) ?_
  refine s_iadd (n := 288) dL_law_287 rfl ?_
  refine s_tload (i + 2) (n := 289) dL_law_288 rfl (List.mem_of_getElem? (i := 0) rfl) (by omega) (by rw [show (2 : Int32) = nI 2 from rfl, nI_add]) (by omega) ?_
  refine s_aload_n (n := 290) dL_law_289 rfl rfl rfl ?_
  refine s_iload_n (n := 291) dL_law_290 rfl rfl rfl ?_
  refine s_iconst (v := 3) (n := 292) dL_law_291 rfl (by decide) ?_
  refine s_iadd (n := 293) dL_law_292 rfl ?_
  refine s_tload (i + 3) (n := 294) dL_law_293 rfl (List.mem_of_getElem? (i := 0) rfl) (by omega) (by rw [show (3 : Int32) = nI 3 from rfl, nI_add]) (by omega) ?_
  refine s_aload_n (n := 295) dL_law_294 rfl rfl rfl ?_
  refine s_iload_n (n := 296) dL_law_295 rfl rfl rfl ?_
  refine s_iconst (v := 4) (n := 297) dL_law_296 rfl (by decide) ?_
  refine s_iadd (n := 298) dL_law_297 rfl ?_
  refine s_tload (i + 4) (n := 299) dL_law_298 rfl (List.mem_of_getElem? (i := 0) rfl) (by omega) (by rw [show (4 : Int32) = nI 4 from rfl, nI_add]) (by omega) ?_
  refine s_aload_n (n := 300) dL_law_299 rfl rfl rfl ?_
  refine s_iload_n (n := 301) dL_law_300 rfl rfl rfl ?_
  refine s_iconst (v := 5) (n := 302) dL_law_301 rfl (by decide) ?_
  refine s_iadd (n := 303) dL_law_302 rfl ?_
  refine s_tload (i + 5) (n := 304) dL_law_303 rfl (List.mem_of_getElem? (i := 0) rfl) (by omega) (by rw [show (5 : Int32) = nI 5 from rfl, nI_add]) (by omega) ?_
  refine s_cv5 (n := 307) dL_law_304 rfl mo_X8_copy ml_L_22 rfl (by decide) rfl rfl (Nat.le_of_ble_eq_true rfl) (Nat.le_of_ble_eq_true rfl) (s_less (by omega) (C_copy (d := 0) hA hC _ _ _ _ _ (fun g2 hC2 hF2 => ?_)))
  have e200 : g2 200 = g 200 := hF2 200 (by decide)
  dsimp only [m_push]
  refine s_aload_n (n := 308) dL_law_307 rfl rfl rfl ?_
  refine s_aload_n (n := 309) dL_law_308 rfl rfl rfl ?_
  refine s_iload_n (n := 310) dL_law_309 rfl rfl rfl ?_
  refine s_iconst (v := 1) (n := 311) dL_law_310 rfl (by decide) ?_
  refine s_iadd (n := 312) dL_law_311 rfl ?_
  refine s_tload (i + 1) (n := 313) dL_law_312 rfl (List.mem_of_getElem? (i := 0) rfl) (by omega) (by rw [show (1 : Int32) = nI 1 from rfl, nI_add]) (by omega) ?_
  refine s_aload_n (n := 314) dL_law_313 rfl rfl rfl ?_
  refine s_iload_n (n := 315) dL_law_314 rfl rfl rfl ?_
  refine s_iconst (v := 2) (n := 316) dL_law_315 rfl (by decide) ?_
  refine s_iadd (n := 317) dL_law_316 rfl ?_
  refine s_tload (i + 2) (n := 318) dL_law_317 rfl (List.mem_of_getElem? (i := 0) rfl) (by omega) (by rw [show (2 : Int32) = nI 2 from rfl, nI_add]) (by omega) ?_
  refine s_aload_n (n := 319) dL_law_318 rfl rfl rfl ?_
  refine s_iload_n (n := 320) dL_law_319 rfl rfl rfl ?_
  refine s_iconst (v := 3) (n := 321) dL_law_320 rfl (by decide) ?_
  refine s_iadd (n := 322) dL_law_321 rfl ?_
  refine s_tload (i + 3) (n := 323) dL_law_322 rfl (List.mem_of_getElem? (i := 0) rfl) (by omega) (by rw [show (3 : Int32) = nI 3 from rfl, nI_add]) (by omega) ?_
  refine s_aload_n (n := 324) dL_law_323 rfl rfl rfl ?_
  refine s_iload_n (n := 325) dL_law_324 rfl rfl rfl ?_
  refine s_iconst (v := 4) (n := 326) dL_law_325 rfl (by decide) ?_
  refine s_iadd (n := 327) dL_law_326 rfl ?_
  refine s_tload (i + 4) (n := 328) dL_law_327 rfl (List.mem_of_getElem? (i := 0) rfl) (by omega) (by rw [show (4 : Int32) = nI 4 from rfl, nI_add]) (by omega) ?_
  refine s_aload_n (n := 329) dL_law_328 rfl rfl rfl ?_
  refine s_iload_n (n := 330) dL_law_329 rfl rfl rfl ?_
  refine s_iconst (v := 5) (n := 331) dL_law_330 rfl (by decide) ?_
  refine s_iadd (n := 332) dL_law_331 rfl ?_
  refine s_tload (i + 5) (n := 333) dL_law_332 rfl (List.mem_of_getElem? (i := 0) rfl) (by omega) (by rw [show (5 : Int32) = nI 5 from rfl, nI_add]) (by omega) ?_
  rw [e200]
  refine s_cv5 (n := 336) dL_law_333 rfl mo_X9_copy ml_L_26 rfl (by decide) rfl rfl (Nat.le_of_ble_eq_true rfl) (Nat.le_of_ble_eq_true rfl) (s_less (by omega) (M_copy (d := 0) hA (hM.fc hF2) _ _ _ _ _ (fun g3 hM3 hF3 => ?_)))
  dsimp only [m_push]
  refine s_icmp_eq (n := 339) (t := 1300) dL_law_336 (by decide) rfl (fun h336 => ?_) (fun h336 => ?_)
  · exact kk g3 _ (ok_copy hA _ _ _ _ _) (hC2.fm hF3) hM3 ((hKS.c hF2).m hF3)
  · exact absurd rfl h336
theorem st_L_drop {SL d : Nat} {Q : Option Int32 → m_G → Prop} (hSL : SL ≤ 384) {i : Nat} (hi : i + 6 ≤ SL) {g : m_G} {a : a_S} (hA : a_OK a) (hC : C_R g a) (hM : M_R g a) (hKS : K_S g) (kk : ∀ g3 a3, a_OK a3 → C_R g3 a3 → M_R g3 a3 → K_S g3 → Sim SL (d + 9) yL_law cL_law 4 (some .boolean) 1300 [.ref 200, .ref 0, .ref 78, .int (nI i)] [] g3 Q) : Sim SL (d + 9) yL_law cL_law 4 (some .boolean) 341 [.ref 200, .ref 0, .ref 78, .int (nI i)] [] g Q := by
  refine s_aload_n (n := 342) dL_law_341 rfl rfl rfl ?_
  refine s_aload_n (n := 343) dL_law_342 rfl rfl rfl ?_
  refine s_iload_n (n := 344) dL_law_343 rfl rfl rfl ?_
  refine s_iconst (v := 1) (n := 345) dL_law_344 rfl (by decide) ?_
  refine s_iadd (n := 346) dL_law_345 rfl ?_
  refine s_tload (i + 1) (n := 347) dL_law_346 rfl (List.mem_of_getElem? (i := 0) rfl) (by omega) (by rw [show (1 : Int32) = nI 1 from rfl, nI_add]) (by omega) ?_
  refine s_cv1 (n := 350) dL_law_347 rfl mo_X8_drop ml_L_27 rfl (by decide) rfl rfl (Nat.le_of_ble_eq_true rfl) (Nat.le_of_ble_eq_true rfl) (s_less (by omega) (C_drop (d := 0) hA hC _ (fun g2 hC2 hF2 => ?_)))
  have e200 : g2 200 = g 200 := hF2 200 (by decide)
  dsimp only [m_push]
  refine s_aload_n (n := 351) dL_law_350 rfl rfl rfl ?_
  refine s_aload_n (n := 352) dL_law_351 rfl rfl rfl ?_
  refine s_iload_n (n := 353) dL_law_352 rfl rfl rfl ?_
  refine s_iconst (v := 1) (n := 354) dL_law_353 rfl (by decide) ?_
  refine s_iadd (n := 355) dL_law_354 rfl ?_
  refine s_tload (i + 1) (n := 356) dL_law_355 rfl (List.mem_of_getElem? (i := 0) rfl) (by omega) (by rw [show (1 : Int32) = nI 1 from rfl, nI_add]) (by omega) ?_
  rw [e200]
  refine s_cv1 (n := 359) dL_law_356 rfl mo_X9_drop ml_L_31 rfl (by decide) rfl rfl (Nat.le_of_ble_eq_true rfl) (Nat.le_of_ble_eq_true rfl) (s_less (by omega) (M_drop (d := 0) hA (hM.fc hF2) _ (fun g3 hM3 hF3 => ?_)))
  dsimp only [m_push]
  refine s_icmp_eq (n := 362) (t := 1300) dL_law_359 (by decide) rfl (fun h359 => ?_) (fun h359 => ?_)
  · exact kk g3 _ (ok_drop hA _) (hC2.fm hF3) hM3 ((hKS.c hF2).m hF3)
  · exact absurd rfl h359
theorem st_L_feed {SL d : Nat} {Q : Option Int32 → m_G → Prop} (hSL : SL ≤ 384) {i : Nat} (hi : i + 6 ≤ SL) {g : m_G} {a : a_S} (hA : a_OK a) (hC : C_R g a) (hM : M_R g a) (hKS : K_S g) (kk : ∀ g3 a3, a_OK a3 → C_R g3 a3 → M_R g3 a3 → K_S g3 → Sim SL (d + 9) yL_law cL_law 4 (some .boolean) 1300 [.ref 200, .ref 0, .ref 78, .int (nI i)] [] g3 Q) : Sim SL (d + 9) yL_law cL_law 4 (some .boolean) 364 [.ref 200, .ref 0, .ref 78, .int (nI i)] [] g Q := by
  refine s_aload_n (n := 365) dL_law_364 rfl rfl rfl ?_
  refine s_aload_n (n := 366) dL_law_365 rfl rfl rfl ?_
  refine s_iload_n (n := 367) dL_law_366 rfl rfl rfl ?_
  refine s_iconst (v := 1) (n := 368) dL_law_367 rfl (by decide) ?_
  refine s_iadd (n := 369) dL_law_368 rfl ?_
  refine s_tload (i + 1) (n := 370) dL_law_369 rfl (List.mem_of_getElem? (i := 0) rfl) (by omega) (by rw [show (1 : Int32) = nI 1 from rfl, nI_add]) (by omega) ?_
  refine s_cv1 (n := 373) dL_law_370 rfl mo_X8_feed ml_L_32 rfl (by decide) rfl rfl (Nat.le_of_ble_eq_true rfl) (Nat.le_of_ble_eq_true rfl) (s_less (by omega) (C_feed (d := 0) hA hC _ (fun g2 hC2 hF2 => ?_)))
  have e200 : g2 200 = g 200 := hF2 200 (by decide)
  dsimp only [m_push]
  refine s_aload_n (n := 374) dL_law_373 rfl rfl rfl ?_
  refine s_aload_n (n := 375) dL_law_374 rfl rfl rfl ?_
  refine s_iload_n (n := 376) dL_law_375 rfl rfl rfl ?_
  refine s_iconst (v := 1) (n := 377) dL_law_376 rfl (by decide) ?_
  refine s_iadd (n := 378) dL_law_377 rfl ?_
  refine s_tload (i + 1) (n := 379) dL_law_378 rfl (List.mem_of_getElem? (i := 0) rfl) (by omega) (by rw [show (1 : Int32) = nI 1 from rfl, nI_add]) (by omega) ?_
  rw [e200]
  refine s_cv1 (n := 382) dL_law_379 rfl mo_X9_feed ml_L_35 rfl (by decide) rfl rfl (Nat.le_of_ble_eq_true rfl) (Nat.le_of_ble_eq_true rfl) (s_less (by omega) (M_feed (d := 0) hA (hM.fc hF2) _ (fun g3 hM3 hF3 => ?_)))
  dsimp only [m_push]
  refine s_icmp_eq (n := 385) (t := 1300) dL_law_382 (by decide) rfl (fun h382 => ?_) (fun h382 => ?_)
  · exact kk g3 _ (ok_feed hA _) (hC2.fm hF3) hM3 ((hKS.c hF2).m hF3)
  · exact absurd rfl h382
theorem st_L_hill {SL d : Nat} {Q : Option Int32 → m_G → Prop} (hSL : SL ≤ 384) {i : Nat} (hi : i + 6 ≤ SL) {g : m_G} {a : a_S} (hA : a_OK a) (hC : C_R g a) (hM : M_R g a) (hKS : K_S g) (kk : ∀ g3 a3, a_OK a3 → C_R g3 a3 → M_R g3 a3 → K_S g3 → Sim SL (d + 9) yL_law cL_law 4 (some .boolean) 1300 [.ref 200, .ref 0, .ref 78, .int (nI i)] [] g3 Q) : Sim SL (d + 9) yL_law cL_law 4 (some .boolean) 387 [.ref 200, .ref 0, .ref 78, .int (nI i)] [] g Q := by
  refine s_aload_n (n := 388) dL_law_387 rfl rfl rfl ?_
  refine s_cv0 (n := 391) dL_law_388 rfl mo_X8_hill ml_L_36 rfl (by decide) rfl rfl (Nat.le_of_ble_eq_true rfl) (Nat.le_of_ble_eq_true rfl) (s_less (by omega) (C_hill (d := 0) hA hC hKS  (fun g2 hC2 hF2 => ?_)))
  have e200 : g2 200 = g 200 := hF2 200 (by decide)
  dsimp only [m_push]
  refine s_aload_n (n := 392) dL_law_391 rfl rfl rfl ?_
  skip
  refine s_cv0 (n := 395) dL_law_392 rfl mo_X9_hill ml_L_40 rfl (by decide) rfl rfl (Nat.le_of_ble_eq_true rfl) (Nat.le_of_ble_eq_true rfl) (s_less (by omega) (M_hill (d := 0) hA (hM.fc hF2) (hKS.c hF2)  (fun g3 hM3 hF3 => ?_)))
  dsimp only [m_push]
  refine s_icmp_eq (n := 398) (t := 1300) dL_law_395 (by decide) rfl (fun h395 => ?_) (fun h395 => ?_)
  · exact kk g3 _ (ok_hillM hA ) (hC2.fm hF3) hM3 ((hKS.c hF2).m hF3)
  · exact absurd rfl h395
theorem st_L_fault {SL d : Nat} {Q : Option Int32 → m_G → Prop} (hSL : SL ≤ 384) {i : Nat} (hi : i + 6 ≤ SL) {g : m_G} {a : a_S} (hA : a_OK a) (hC : C_R g a) (hM : M_R g a) (hKS : K_S g) (kk : ∀ g3 a3, a_OK a3 → C_R g3 a3 → M_R g3 a3 → K_S g3 → Sim SL (d + 9) yL_law cL_law 4 (some .boolean) 1300 [.ref 200, .ref 0, .ref 78, .int (nI i)] [] g3 Q) : Sim SL (d + 9) yL_law cL_law 4 (some .boolean) 400 [.ref 200, .ref 0, .ref 78, .int (nI i)] [] g Q := by
  refine s_aload_n (n := 401) dL_law_400 rfl rfl rfl ?_
  refine s_cv0 (n := 404) dL_law_401 rfl mo_X8_fault ml_L_41 rfl (by decide) rfl rfl (Nat.le_of_ble_eq_true rfl) (Nat.le_of_ble_eq_true rfl) (s_less (by omega) (C_fault (d := 0) hA hC  (fun g2 hC2 hF2 => ?_)))
  have e200 : g2 200 = g 200 := hF2 200 (by decide)
  dsimp only [m_push]
  refine s_aload_n (n := 405) dL_law_404 rfl rfl rfl ?_
  skip
  refine s_cv0 (n := 408) dL_law_405 rfl mo_X9_fault ml_L_44 rfl (by decide) rfl rfl (Nat.le_of_ble_eq_true rfl) (Nat.le_of_ble_eq_true rfl) (s_less (by omega) (M_fault (d := 0) hA (hM.fc hF2)  (fun g3 hM3 hF3 => ?_)))
  dsimp only [m_push]
  refine s_icmp_eq (n := 411) (t := 1300) dL_law_408 (by decide) rfl (fun h408 => ?_) (fun h408 => ?_)
  · exact kk g3 _ (ok_fault hA ) (hC2.fm hF3) hM3 ((hKS.c hF2).m hF3)
  · exact absurd rfl h408
theorem st_L_years {SL d : Nat} {Q : Option Int32 → m_G → Prop} (hSL : SL ≤ 384) {i : Nat} (hi : i + 6 ≤ SL) {g : m_G} {a : a_S} (hA : a_OK a) (hC : C_R g a) (hM : M_R g a) (hKS : K_S g) (kk : ∀ g3 a3, a_OK a3 → C_R g3 a3 → M_R g3 a3 → K_S g3 → Sim SL (d + 9) yL_law cL_law 4 (some .boolean) 1300 [.ref 200, .ref 0, .ref 78, .int (nI i)] [] g3 Q) : Sim SL (d + 9) yL_law cL_law 4 (some .boolean) 413 [.ref 200, .ref 0, .ref 78, .int (nI i)] [] g Q := by
  refine s_aload_n (n := 414) dL_law_413 rfl rfl rfl ?_
  refine s_aload_n (n := 415) dL_law_414 rfl rfl rfl ?_
  refine s_iload_n (n := 416) dL_law_415 rfl rfl rfl ?_
  refine s_iconst (v := 1) (n := 417) dL_law_416 rfl (by decide) ?_
  refine s_iadd (n := 418) dL_law_417 rfl ?_
  refine s_tload (i + 1) (n := 419) dL_law_418 rfl (List.mem_of_getElem? (i := 0) rfl) (by omega) (by rw [show (1 : Int32) = nI 1 from rfl, nI_add]) (by omega) ?_
  refine s_cv1 (n := 422) dL_law_419 rfl mo_X8_years ml_L_45 rfl (by decide) rfl rfl (Nat.le_of_ble_eq_true rfl) (Nat.le_of_ble_eq_true rfl) (s_less (by omega) (C_years (d := 0) hA hC _ (fun g2 hC2 hF2 => ?_)))
  have e200 : g2 200 = g 200 := hF2 200 (by decide)
  dsimp only [m_push]
  refine s_aload_n (n := 423) dL_law_422 rfl rfl rfl ?_
  refine s_aload_n (n := 424) dL_law_423 rfl rfl rfl ?_
  refine s_iload_n (n := 425) dL_law_424 rfl rfl rfl ?_
  refine s_iconst (v := 1) (n := 426) dL_law_425 rfl (by decide) ?_
  refine s_iadd (n := 427) dL_law_426 rfl ?_
  refine s_tload (i + 1) (n := 428) dL_law_427 rfl (List.mem_of_getElem? (i := 0) rfl) (by omega) (by rw [show (1 : Int32) = nI 1 from rfl, nI_add]) (by omega) ?_
  rw [e200]
  refine s_cv1 (n := 431) dL_law_428 rfl mo_X9_years ml_L_48 rfl (by decide) rfl rfl (Nat.le_of_ble_eq_true rfl) (Nat.le_of_ble_eq_true rfl) (s_less (by omega) (M_years (d := 0) hA (hM.fc hF2) _ (fun g3 hM3 hF3 => ?_)))
  dsimp only [m_push]
  refine s_icmp_eq (n := 434) (t := 1300) dL_law_431 (by decide) rfl (fun h431 => ?_) (fun h431 => ?_)
  · exact kk g3 _ (ok_years hA _) (hC2.fm hF3) hM3 ((hKS.c hF2).m hF3)
  · exact absurd rfl h431
theorem st_L_door {SL d : Nat} {Q : Option Int32 → m_G → Prop} (hSL : SL ≤ 384) {i : Nat} (hi : i + 6 ≤ SL) {g : m_G} {a : a_S} (hA : a_OK a) (hC : C_R g a) (hM : M_R g a) (hKS : K_S g) (kk : ∀ g3 a3, a_OK a3 → C_R g3 a3 → M_R g3 a3 → K_S g3 → Sim SL (d + 9) yL_law cL_law 4 (some .boolean) 1300 [.ref 200, .ref 0, .ref 78, .int (nI i)] [] g3 Q) : Sim SL (d + 9) yL_law cL_law 4 (some .boolean) 436 [.ref 200, .ref 0, .ref 78, .int (nI i)] [] g Q := by
  refine s_aload_n (n := 437) dL_law_436 rfl rfl rfl ?_
  refine s_aload_n (n := 438) dL_law_437 rfl rfl rfl ?_
  refine s_iload_n (n := 439) dL_law_438 rfl rfl rfl ?_
  refine s_iconst (v := 1) (n := 440) dL_law_439 rfl (by decide) ?_
  refine s_iadd (n := 441) dL_law_440 rfl ?_
  refine s_tload (i + 1) (n := 442) dL_law_441 rfl (List.mem_of_getElem? (i := 0) rfl) (by omega) (by rw [show (1 : Int32) = nI 1 from rfl, nI_add]) (by omega) ?_
  refine s_aload_n (n := 443) dL_law_442 rfl rfl rfl ?_
  refine s_iload_n (n := 444) dL_law_443 rfl rfl rfl ?_
  refine s_iconst (v := 2) (n := 445) dL_law_444 rfl (by decide) ?_
  refine s_iadd (n := 446) dL_law_445 rfl ?_
  refine s_tload (i + 2) (n := 447) dL_law_446 rfl (List.mem_of_getElem? (i := 0) rfl) (by omega) (by rw [show (2 : Int32) = nI 2 from rfl, nI_add]) (by omega) ?_
  refine s_cv2 (n := 450) dL_law_447 rfl mo_X8_door ml_L_49 rfl (by decide) rfl rfl (Nat.le_of_ble_eq_true rfl) (Nat.le_of_ble_eq_true rfl) (s_less (by omega) (C_door (d := 0) hA hC _ _ (fun g2 hC2 hF2 => ?_)))
  have e200 : g2 200 = g 200 := hF2 200 (by decide)
  dsimp only [m_push]
  refine s_aload_n (n := 451) dL_law_450 rfl rfl rfl ?_
  refine s_aload_n (n := 452) dL_law_451 rfl rfl rfl ?_
  refine s_iload_n (n := 453) dL_law_452 rfl rfl rfl ?_
  refine s_iconst (v := 1) (n := 454) dL_law_453 rfl (by decide) ?_
  refine s_iadd (n := 455) dL_law_454 rfl ?_
  refine s_tload (i + 1) (n := 456) dL_law_455 rfl (List.mem_of_getElem? (i := 0) rfl) (by omega) (by rw [show (1 : Int32) = nI 1 from rfl, nI_add]) (by omega) ?_
  refine s_aload_n (n := 457) dL_law_456 rfl rfl rfl ?_
  refine s_iload_n (n := 458) dL_law_457 rfl rfl rfl ?_
  refine s_iconst (v := 2) (n := 459) dL_law_458 rfl (by decide) ?_
  refine s_iadd (n := 460) dL_law_459 rfl ?_
  refine s_tload (i + 2) (n := 461) dL_law_460 rfl (List.mem_of_getElem? (i := 0) rfl) (by omega) (by rw [show (2 : Int32) = nI 2 from rfl, nI_add]) (by omega) ?_
  rw [e200]
  refine s_cv2 (n := 464) dL_law_461 rfl mo_X9_door ml_L_53 rfl (by decide) rfl rfl (Nat.le_of_ble_eq_true rfl) (Nat.le_of_ble_eq_true rfl) (s_less (by omega) (M_door (d := 0) hA (hM.fc hF2) _ _ (fun g3 hM3 hF3 => ?_)))
  dsimp only [m_push]
  refine s_icmp_eq (n := 467) (t := 1300) dL_law_464 (by decide) rfl (fun h464 => ?_) (fun h464 => ?_)
  · exact kk g3 _ (ok_door hA _ _) (hC2.fm hF3) hM3 ((hKS.c hF2).m hF3)
  · exact absurd rfl h464
theorem st_L_build {SL d : Nat} {Q : Option Int32 → m_G → Prop} (hSL : SL ≤ 384) {i : Nat} (hi : i + 6 ≤ SL) {g : m_G} {a : a_S} (hA : a_OK a) (hC : C_R g a) (hM : M_R g a) (hKS : K_S g) (kk : ∀ g3 a3, a_OK a3 → C_R g3 a3 → M_R g3 a3 → K_S g3 → Sim SL (d + 9) yL_law cL_law 4 (some .boolean) 1300 [.ref 200, .ref 0, .ref 78, .int (nI i)] [] g3 Q) : Sim SL (d + 9) yL_law cL_law 4 (some .boolean) 469 [.ref 200, .ref 0, .ref 78, .int (nI i)] [] g Q := by
  refine s_aload_n (n := 470) dL_law_469 rfl rfl rfl ?_
  refine s_aload_n (n := 471) dL_law_470 rfl rfl rfl ?_
  refine s_iload_n (n := 472) dL_law_471 rfl rfl rfl ?_
  refine s_iconst (v := 1) (n := 473) dL_law_472 rfl (by decide) ?_
  refine s_iadd (n := 474) dL_law_473 rfl ?_
  refine s_tload (i + 1) (n := 475) dL_law_474 rfl (List.mem_of_getElem? (i := 0) rfl) (by omega) (by rw [show (1 : Int32) = nI 1 from rfl, nI_add]) (by omega) ?_
  refine s_aload_n (n := 476) dL_law_475 rfl rfl rfl ?_
  refine s_iload_n (n := 477) dL_law_476 rfl rfl rfl ?_
  refine s_iconst (v := 2) (n := 478) dL_law_477 rfl (by decide) ?_
  refine s_iadd (n := 479) dL_law_478 rfl ?_
  refine s_tload (i + 2) (n := 480) dL_law_479 rfl (List.mem_of_getElem? (i := 0) rfl) (by omega) (by rw [show (2 : Int32) = nI 2 from rfl, nI_add]) (by omega) ?_
  refine s_aload_n (n := 481) dL_law_480 rfl rfl rfl ?_
  refine s_iload_n (n := 482) dL_law_481 rfl rfl rfl ?_
  refine s_iconst (v := 3) (n := 483) dL_law_482 rfl (by decide) ?_
  refine s_iadd (n := 484) dL_law_483 rfl ?_
  refine s_tload (i + 3) (n := 485) dL_law_484 rfl (List.mem_of_getElem? (i := 0) rfl) (by omega) (by rw [show (3 : Int32) = nI 3 from rfl, nI_add]) (by omega) ?_
  refine s_cv3 (n := 488) dL_law_485 rfl mo_X8_build ml_L_54 rfl (by decide) rfl rfl (Nat.le_of_ble_eq_true rfl) (Nat.le_of_ble_eq_true rfl) (s_less (by omega) (C_build (d := 0) hA hC _ _ _ (fun g2 hC2 hF2 => ?_)))
  have e200 : g2 200 = g 200 := hF2 200 (by decide)
  dsimp only [m_push]
  refine s_aload_n (n := 489) dL_law_488 rfl rfl rfl ?_
  refine s_aload_n (n := 490) dL_law_489 rfl rfl rfl ?_
  refine s_iload_n (n := 491) dL_law_490 rfl rfl rfl ?_
  refine s_iconst (v := 1) (n := 492) dL_law_491 rfl (by decide) ?_
  refine s_iadd (n := 493) dL_law_492 rfl ?_
  refine s_tload (i + 1) (n := 494) dL_law_493 rfl (List.mem_of_getElem? (i := 0) rfl) (by omega) (by rw [show (1 : Int32) = nI 1 from rfl, nI_add]) (by omega) ?_
  refine s_aload_n (n := 495) dL_law_494 rfl rfl rfl ?_
  refine s_iload_n (n := 496) dL_law_495 rfl rfl rfl ?_
  refine s_iconst (v := 2) (n := 497) dL_law_496 rfl (by decide) ?_
  refine s_iadd (n := 498) dL_law_497 rfl ?_
  refine s_tload (i + 2) (n := 499) dL_law_498 rfl (List.mem_of_getElem? (i := 0) rfl) (by omega) (by rw [show (2 : Int32) = nI 2 from rfl, nI_add]) (by omega) ?_
  refine s_aload_n (n := 500) dL_law_499 rfl rfl rfl ?_
  refine s_iload_n (n := 501) dL_law_500 rfl rfl rfl ?_
  refine s_iconst (v := 3) (n := 502) dL_law_501 rfl (by decide) ?_
  refine s_iadd (n := 503) dL_law_502 rfl ?_
  refine s_tload (i + 3) (n := 504) dL_law_503 rfl (List.mem_of_getElem? (i := 0) rfl) (by omega) (by rw [show (3 : Int32) = nI 3 from rfl, nI_add]) (by omega) ?_
  rw [e200]
  refine s_cv3 (n := 507) dL_law_504 rfl mo_X9_build ml_L_57 rfl (by decide) rfl rfl (Nat.le_of_ble_eq_true rfl) (Nat.le_of_ble_eq_true rfl) (s_less (by omega) (M_build (d := 0) hA (hM.fc hF2) _ _ _ (fun g3 hM3 hF3 => ?_)))
  dsimp only [m_push]
  refine s_icmp_eq (n := 510) (t := 1300) dL_law_507 (by decide) rfl (fun h507 => ?_) (fun h507 => ?_)
  · exact kk g3 _ (ok_build hA _ _ _) (hC2.fm hF3) hM3 ((hKS.c hF2).m hF3)
  · exact absurd rfl h507
theorem st_L_speed {SL d : Nat} {Q : Option Int32 → m_G → Prop} (hSL : SL ≤ 384) {i : Nat} (hi : i + 6 ≤ SL) {g : m_G} {a : a_S} (hA : a_OK a) (hC : C_R g a) (hM : M_R g a) (hKS : K_S g) (kk : ∀ g3 a3, a_OK a3 → C_R g3 a3 → M_R g3 a3 → K_S g3 → Sim SL (d + 9) yL_law cL_law 4 (some .boolean) 1300 [.ref 200, .ref 0, .ref 78, .int (nI i)] [] g3 Q) : Sim SL (d + 9) yL_law cL_law 4 (some .boolean) 512 [.ref 200, .ref 0, .ref 78, .int (nI i)] [] g Q := by
  refine s_aload_n (n := 513) dL_law_512 rfl rfl rfl ?_
  refine s_aload_n (n := 514) dL_law_513 rfl rfl rfl ?_
  refine s_iload_n (n := 515) dL_law_514 rfl rfl rfl ?_
  refine s_iconst (v := 1) (n := 516) dL_law_515 rfl (by decide) ?_
  refine s_iadd (n := 517) dL_law_516 rfl ?_
  refine s_tload (i + 1) (n := 518) dL_law_517 rfl (List.mem_of_getElem? (i := 0) rfl) (by omega) (by rw [show (1 : Int32) = nI 1 from rfl, nI_add]) (by omega) ?_
  refine s_cv1 (n := 521) dL_law_518 rfl mo_X8_speed ml_L_58 rfl (by decide) rfl rfl (Nat.le_of_ble_eq_true rfl) (Nat.le_of_ble_eq_true rfl) (s_less (by omega) (C_speed (d := 0) hA hC _ (fun g2 hC2 hF2 => ?_)))
  have e200 : g2 200 = g 200 := hF2 200 (by decide)
  dsimp only [m_push]
  refine s_aload_n (n := 522) dL_law_521 rfl rfl rfl ?_
  refine s_aload_n (n := 523) dL_law_522 rfl rfl rfl ?_
  refine s_iload_n (n := 524) dL_law_523 rfl rfl rfl ?_
  refine s_iconst (v := 1) (n := 525) dL_law_524 rfl (by decide) ?_
  refine s_iadd (n := 526) dL_law_525 rfl ?_
  refine s_tload (i + 1) (n := 527) dL_law_526 rfl (List.mem_of_getElem? (i := 0) rfl) (by omega) (by rw [show (1 : Int32) = nI 1 from rfl, nI_add]) (by omega) ?_
  rw [e200]
  refine s_cv1 (n := 530) dL_law_527 rfl mo_X9_speed ml_L_61 rfl (by decide) rfl rfl (Nat.le_of_ble_eq_true rfl) (Nat.le_of_ble_eq_true rfl) (s_less (by omega) (M_speed (d := 0) hA (hM.fc hF2) _ (fun g3 hM3 hF3 => ?_)))
  dsimp only [m_push]
  refine s_icmp_eq (n := 533) (t := 1300) dL_law_530 (by decide) rfl (fun h530 => ?_) (fun h530 => ?_)
  · exact kk g3 _ (ok_speed hA _) (hC2.fm hF3) hM3 ((hKS.c hF2).m hF3)
  · exact absurd rfl h530
theorem st_L_undo {SL d : Nat} {Q : Option Int32 → m_G → Prop} (hSL : SL ≤ 384) {i : Nat} (hi : i + 6 ≤ SL) {g : m_G} {a : a_S} (hA : a_OK a) (hC : C_R g a) (hM : M_R g a) (hKS : K_S g) (kk : ∀ g3 a3, a_OK a3 → C_R g3 a3 → M_R g3 a3 → K_S g3 → Sim SL (d + 9) yL_law cL_law 4 (some .boolean) 1300 [.ref 200, .ref 0, .ref 78, .int (nI i)] [] g3 Q) : Sim SL (d + 9) yL_law cL_law 4 (some .boolean) 535 [.ref 200, .ref 0, .ref 78, .int (nI i)] [] g Q := by
  refine s_aload_n (n := 536) dL_law_535 rfl rfl rfl ?_
  refine s_cv0 (n := 539) dL_law_536 rfl mo_X8_undo ml_L_62 rfl (by decide) rfl rfl (Nat.le_of_ble_eq_true rfl) (Nat.le_of_ble_eq_true rfl) (s_less (by omega) (C_undo (d := 0) hA hC  (fun g2 hC2 hF2 => ?_)))
  have e200 : g2 200 = g 200 := hF2 200 (by decide)
  dsimp only [m_push]
  refine s_aload_n (n := 540) dL_law_539 rfl rfl rfl ?_
  skip
  refine s_cv0 (n := 543) dL_law_540 rfl mo_X9_undo ml_L_65 rfl (by decide) rfl rfl (Nat.le_of_ble_eq_true rfl) (Nat.le_of_ble_eq_true rfl) (s_less (by omega) (M_undo (d := 0) hA (hM.fc hF2)  (fun g3 hM3 hF3 => ?_)))
  dsimp only [m_push]
  refine s_icmp_eq (n := 546) (t := 1300) dL_law_543 (by decide) rfl (fun h543 => ?_) (fun h543 => ?_)
  · exact kk g3 _ (ok_undo hA ) (hC2.fm hF3) hM3 ((hKS.c hF2).m hF3)
  · exact absurd rfl h543
theorem st_L_house {SL d : Nat} {Q : Option Int32 → m_G → Prop} (hSL : SL ≤ 384) {i : Nat} (hi : i + 6 ≤ SL) {g : m_G} {a : a_S} (hA : a_OK a) (hC : C_R g a) (hM : M_R g a) (hKS : K_S g) (kk : ∀ g3 a3, a_OK a3 → C_R g3 a3 → M_R g3 a3 → K_S g3 → Sim SL (d + 9) yL_law cL_law 4 (some .boolean) 1300 [.ref 200, .ref 0, .ref 78, .int (nI i)] [] g3 Q) : Sim SL (d + 9) yL_law cL_law 4 (some .boolean) 548 [.ref 200, .ref 0, .ref 78, .int (nI i)] [] g Q := by
  refine s_aload_n (n := 549) dL_law_548 rfl rfl rfl ?_
  refine s_aload_n (n := 550) dL_law_549 rfl rfl rfl ?_
  refine s_iload_n (n := 551) dL_law_550 rfl rfl rfl ?_
  refine s_iconst (v := 1) (n := 552) dL_law_551 rfl (by decide) ?_
  refine s_iadd (n := 553) dL_law_552 rfl ?_
  refine s_tload (i + 1) (n := 554) dL_law_553 rfl (List.mem_of_getElem? (i := 0) rfl) (by omega) (by rw [show (1 : Int32) = nI 1 from rfl, nI_add]) (by omega) ?_
  refine s_aload_n (n := 555) dL_law_554 rfl rfl rfl ?_
  refine s_iload_n (n := 556) dL_law_555 rfl rfl rfl ?_
  refine s_iconst (v := 2) (n := 557) dL_law_556 rfl (by decide) ?_
  refine s_iadd (n := 558) dL_law_557 rfl ?_
  refine s_tload (i + 2) (n := 559) dL_law_558 rfl (List.mem_of_getElem? (i := 0) rfl) (by omega) (by rw [show (2 : Int32) = nI 2 from rfl, nI_add]) (by omega) ?_
  refine s_cv2 (n := 562) dL_law_559 rfl mo_X8_house ml_L_66 rfl (by decide) rfl rfl (Nat.le_of_ble_eq_true rfl) (Nat.le_of_ble_eq_true rfl) (s_less (by omega) (C_house (d := 0) hA hC _ _ (fun g2 hC2 hF2 => ?_)))
  have e200 : g2 200 = g 200 := hF2 200 (by decide)
  dsimp only [m_push]
  refine s_aload_n (n := 563) dL_law_562 rfl rfl rfl ?_
  refine s_aload_n (n := 564) dL_law_563 rfl rfl rfl ?_
  refine s_iload_n (n := 565) dL_law_564 rfl rfl rfl ?_
  refine s_iconst (v := 1) (n := 566) dL_law_565 rfl (by decide) ?_
  refine s_iadd (n := 567) dL_law_566 rfl ?_
  refine s_tload (i + 1) (n := 568) dL_law_567 rfl (List.mem_of_getElem? (i := 0) rfl) (by omega) (by rw [show (1 : Int32) = nI 1 from rfl, nI_add]) (by omega) ?_
  refine s_aload_n (n := 569) dL_law_568 rfl rfl rfl ?_
  refine s_iload_n (n := 570) dL_law_569 rfl rfl rfl ?_
  refine s_iconst (v := 2) (n := 571) dL_law_570 rfl (by decide) ?_
  refine s_iadd (n := 572) dL_law_571 rfl ?_
  refine s_tload (i + 2) (n := 573) dL_law_572 rfl (List.mem_of_getElem? (i := 0) rfl) (by omega) (by rw [show (2 : Int32) = nI 2 from rfl, nI_add]) (by omega) ?_
  rw [e200]
  refine s_cv2 (n := 576) dL_law_573 rfl mo_X9_house ml_L_69 rfl (by decide) rfl rfl (Nat.le_of_ble_eq_true rfl) (Nat.le_of_ble_eq_true rfl) (s_less (by omega) (M_house (d := 0) hA (hM.fc hF2) _ _ (fun g3 hM3 hF3 => ?_)))
  dsimp only [m_push]
  refine s_icmp_eq (n := 579) (t := 1300) dL_law_576 (by decide) rfl (fun h576 => ?_) (fun h576 => ?_)
  · exact kk g3 _ (ok_house hA _ _) (hC2.fm hF3) hM3 ((hKS.c hF2).m hF3)
  · exact absurd rfl h576
theorem st_L_at {SL d : Nat} {Q : Option Int32 → m_G → Prop} (hSL : SL ≤ 384) {i : Nat} (hi : i + 6 ≤ SL) {g : m_G} {a : a_S} (hA : a_OK a) (hC : C_R g a) (hM : M_R g a) (hKS : K_S g) (kk : ∀ g3 a3, a_OK a3 → C_R g3 a3 → M_R g3 a3 → K_S g3 → Sim SL (d + 9) yL_law cL_law 4 (some .boolean) 1300 [.ref 200, .ref 0, .ref 78, .int (nI i)] [] g3 Q) : Sim SL (d + 9) yL_law cL_law 4 (some .boolean) 581 [.ref 200, .ref 0, .ref 78, .int (nI i)] [] g Q := by
  refine s_aload_n (n := 582) dL_law_581 rfl rfl rfl ?_
  refine s_aload_n (n := 583) dL_law_582 rfl rfl rfl ?_
  refine s_iload_n (n := 584) dL_law_583 rfl rfl rfl ?_
  refine s_iconst (v := 1) (n := 585) dL_law_584 rfl (by decide) ?_
  refine s_iadd (n := 586) dL_law_585 rfl ?_
  refine s_tload (i + 1) (n := 587) dL_law_586 rfl (List.mem_of_getElem? (i := 0) rfl) (by omega) (by rw [show (1 : Int32) = nI 1 from rfl, nI_add]) (by omega) ?_
  refine s_aload_n (n := 588) dL_law_587 rfl rfl rfl ?_
  refine s_iload_n (n := 589) dL_law_588 rfl rfl rfl ?_
  refine s_iconst (v := 2) (n := 590) dL_law_589 rfl (by decide) ?_
  refine s_iadd (n := 591) dL_law_590 rfl ?_
  refine s_tload (i + 2) (n := 592) dL_law_591 rfl (List.mem_of_getElem? (i := 0) rfl) (by omega) (by rw [show (2 : Int32) = nI 2 from rfl, nI_add]) (by omega) ?_
  refine s_cv2 (n := 595) dL_law_592 rfl mo_X8_at ml_L_70 rfl (by decide) rfl rfl (Nat.le_of_ble_eq_true rfl) (Nat.le_of_ble_eq_true rfl) (s_less (by omega) (C_at (d := 0) hA hC _ _ (fun g2 hC2 hF2 => ?_)))
  have e200 : g2 200 = g 200 := hF2 200 (by decide)
  dsimp only [m_push]
  refine s_aload_n (n := 596) dL_law_595 rfl rfl rfl ?_
  refine s_aload_n (n := 597) dL_law_596 rfl rfl rfl ?_
  refine s_iload_n (n := 598) dL_law_597 rfl rfl rfl ?_
  refine s_iconst (v := 1) (n := 599) dL_law_598 rfl (by decide) ?_
  refine s_iadd (n := 600) dL_law_599 rfl ?_
  refine s_tload (i + 1) (n := 601) dL_law_600 rfl (List.mem_of_getElem? (i := 0) rfl) (by omega) (by rw [show (1 : Int32) = nI 1 from rfl, nI_add]) (by omega) ?_
  refine s_aload_n (n := 602) dL_law_601 rfl rfl rfl ?_
  refine s_iload_n (n := 603) dL_law_602 rfl rfl rfl ?_
  refine s_iconst (v := 2) (n := 604) dL_law_603 rfl (by decide) ?_
  refine s_iadd (n := 605) dL_law_604 rfl ?_
  refine s_tload (i + 2) (n := 606) dL_law_605 rfl (List.mem_of_getElem? (i := 0) rfl) (by omega) (by rw [show (2 : Int32) = nI 2 from rfl, nI_add]) (by omega) ?_
  rw [e200]
  refine s_cv2 (n := 609) dL_law_606 rfl mo_X9_at ml_L_73 rfl (by decide) rfl rfl (Nat.le_of_ble_eq_true rfl) (Nat.le_of_ble_eq_true rfl) (s_less (by omega) (M_at (d := 0) hA (hM.fc hF2) _ _ (fun g3 hM3 hF3 => ?_)))
  dsimp only [m_push]
  refine s_icmp_eq (n := 612) (t := 1300) dL_law_609 (by decide) rfl (fun h609 => ?_) (fun h609 => ?_)
  · exact kk g3 _ (ok_at hA _ _) (hC2.fm hF3) hM3 ((hKS.c hF2).m hF3)
  · exact absurd rfl h609
theorem st_L_rests {SL d : Nat} {Q : Option Int32 → m_G → Prop} (hSL : SL ≤ 384) {i : Nat} (hi : i + 6 ≤ SL) {g : m_G} {a : a_S} (hA : a_OK a) (hC : C_R g a) (hM : M_R g a) (hKS : K_S g) (kk : ∀ g3 a3, a_OK a3 → C_R g3 a3 → M_R g3 a3 → K_S g3 → Sim SL (d + 9) yL_law cL_law 4 (some .boolean) 1300 [.ref 200, .ref 0, .ref 78, .int (nI i)] [] g3 Q) : Sim SL (d + 9) yL_law cL_law 4 (some .boolean) 614 [.ref 200, .ref 0, .ref 78, .int (nI i)] [] g Q := by
  refine s_aload_n (n := 615) dL_law_614 rfl rfl rfl ?_
  refine s_aload_n (n := 616) dL_law_615 rfl rfl rfl ?_
  refine s_iload_n (n := 617) dL_law_616 rfl rfl rfl ?_
  refine s_iconst (v := 1) (n := 618) dL_law_617 rfl (by decide) ?_
  refine s_iadd (n := 619) dL_law_618 rfl ?_
  refine s_tload (i + 1) (n := 620) dL_law_619 rfl (List.mem_of_getElem? (i := 0) rfl) (by omega) (by rw [show (1 : Int32) = nI 1 from rfl, nI_add]) (by omega) ?_
  refine s_cv1 (n := 623) dL_law_620 rfl mo_X8_rests ml_L_74 rfl (by decide) rfl rfl (Nat.le_of_ble_eq_true rfl) (Nat.le_of_ble_eq_true rfl) (s_less (by omega) (C_rests (d := 0) hA hC _ (fun g2 hC2 hF2 => ?_)))
  have e200 : g2 200 = g 200 := hF2 200 (by decide)
  dsimp only [m_push]
  refine s_aload_n (n := 624) dL_law_623 rfl rfl rfl ?_
  refine s_aload_n (n := 625) dL_law_624 rfl rfl rfl ?_
  refine s_iload_n (n := 626) dL_law_625 rfl rfl rfl ?_
  refine s_iconst (v := 1) (n := 627) dL_law_626 rfl (by decide) ?_
  refine s_iadd (n := 628) dL_law_627 rfl ?_
  refine s_tload (i + 1) (n := 629) dL_law_628 rfl (List.mem_of_getElem? (i := 0) rfl) (by omega) (by rw [show (1 : Int32) = nI 1 from rfl, nI_add]) (by omega) ?_
  rw [e200]
  refine s_cv1 (n := 632) dL_law_629 rfl mo_X9_rests ml_L_77 rfl (by decide) rfl rfl (Nat.le_of_ble_eq_true rfl) (Nat.le_of_ble_eq_true rfl) (s_less (by omega) (M_rests (d := 0) hA (hM.fc hF2) _ (fun g3 hM3 hF3 => ?_)))
  dsimp only [m_push]
  refine s_icmp_eq (n := 635) (t := 1300) dL_law_632 (by decide) rfl (fun h632 => ?_) (fun h632 => ?_)
  · exact kk g3 _ (ok_rests hA _) (hC2.fm hF3) hM3 ((hKS.c hF2).m hF3)
  · exact absurd rfl h632
theorem st_L_line {SL d : Nat} {Q : Option Int32 → m_G → Prop} (hSL : SL ≤ 384) {i : Nat} (hi : i + 6 ≤ SL) {g : m_G} {a : a_S} (hA : a_OK a) (hC : C_R g a) (hM : M_R g a) (hKS : K_S g) (kk : ∀ g3 a3, a_OK a3 → C_R g3 a3 → M_R g3 a3 → K_S g3 → Sim SL (d + 9) yL_law cL_law 4 (some .boolean) 1300 [.ref 200, .ref 0, .ref 78, .int (nI i)] [] g3 Q) : Sim SL (d + 9) yL_law cL_law 4 (some .boolean) 637 [.ref 200, .ref 0, .ref 78, .int (nI i)] [] g Q := by
  refine s_aload_n (n := 638) dL_law_637 rfl rfl rfl ?_
  refine s_aload_n (n := 639) dL_law_638 rfl rfl rfl ?_
  refine s_iload_n (n := 640) dL_law_639 rfl rfl rfl ?_
  refine s_iconst (v := 1) (n := 641) dL_law_640 rfl (by decide) ?_
  refine s_iadd (n := 642) dL_law_641 rfl ?_
  refine s_tload (i + 1) (n := 643) dL_law_642 rfl (List.mem_of_getElem? (i := 0) rfl) (by omega) (by rw [show (1 : Int32) = nI 1 from rfl, nI_add]) (by omega) ?_
  refine s_aload_n (n := 644) dL_law_643 rfl rfl rfl ?_
  refine s_iload_n (n := 645) dL_law_644 rfl rfl rfl ?_
  refine s_iconst (v := 2) (n := 646) dL_law_645 rfl (by decide) ?_
  refine s_iadd (n := 647) dL_law_646 rfl ?_
  refine s_tload (i + 2) (n := 648) dL_law_647 rfl (List.mem_of_getElem? (i := 0) rfl) (by omega) (by rw [show (2 : Int32) = nI 2 from rfl, nI_add]) (by omega) ?_
  refine s_cv2 (n := 651) dL_law_648 rfl mo_X8_line ml_L_78 rfl (by decide) rfl rfl (Nat.le_of_ble_eq_true rfl) (Nat.le_of_ble_eq_true rfl) (s_less (by omega) (C_line (d := 0) hA hC _ _ (fun g2 hC2 hF2 => ?_)))
  have e200 : g2 200 = g 200 := hF2 200 (by decide)
  dsimp only [m_push]
  refine s_aload_n (n := 652) dL_law_651 rfl rfl rfl ?_
  refine s_aload_n (n := 653) dL_law_652 rfl rfl rfl ?_
  refine s_iload_n (n := 654) dL_law_653 rfl rfl rfl ?_
  refine s_iconst (v := 1) (n := 655) dL_law_654 rfl (by decide) ?_
  refine s_iadd (n := 656) dL_law_655 rfl ?_
  refine s_tload (i + 1) (n := 657) dL_law_656 rfl (List.mem_of_getElem? (i := 0) rfl) (by omega) (by rw [show (1 : Int32) = nI 1 from rfl, nI_add]) (by omega) ?_
  refine s_aload_n (n := 658) dL_law_657 rfl rfl rfl ?_
  refine s_iload_n (n := 659) dL_law_658 rfl rfl rfl ?_
  refine s_iconst (v := 2) (n := 660) dL_law_659 rfl (by decide) ?_
  refine s_iadd (n := 661) dL_law_660 rfl ?_
  refine s_tload (i + 2) (n := 662) dL_law_661 rfl (List.mem_of_getElem? (i := 0) rfl) (by omega) (by rw [show (2 : Int32) = nI 2 from rfl, nI_add]) (by omega) ?_
  rw [e200]
  refine s_cv2 (n := 665) dL_law_662 rfl mo_X9_line ml_L_81 rfl (by decide) rfl rfl (Nat.le_of_ble_eq_true rfl) (Nat.le_of_ble_eq_true rfl) (s_less (by omega) (M_line (d := 0) hA (hM.fc hF2) _ _ (fun g3 hM3 hF3 => ?_)))
  dsimp only [m_push]
  refine s_icmp_eq (n := 668) (t := 1300) dL_law_665 (by decide) rfl (fun h665 => ?_) (fun h665 => ?_)
  · exact kk g3 _ (ok_line hA _ _) (hC2.fm hF3) hM3 ((hKS.c hF2).m hF3)
  · exact absurd rfl h665
theorem st_L_left {SL d : Nat} {Q : Option Int32 → m_G → Prop} (hSL : SL ≤ 384) {i : Nat} (hi : i + 6 ≤ SL) {g : m_G} {a : a_S} (hA : a_OK a) (hC : C_R g a) (hM : M_R g a) (hKS : K_S g) (kk : ∀ g3 a3, a_OK a3 → C_R g3 a3 → M_R g3 a3 → K_S g3 → Sim SL (d + 9) yL_law cL_law 4 (some .boolean) 1300 [.ref 200, .ref 0, .ref 78, .int (nI i)] [] g3 Q) : Sim SL (d + 9) yL_law cL_law 4 (some .boolean) 670 [.ref 200, .ref 0, .ref 78, .int (nI i)] [] g Q := by
  refine s_aload_n (n := 671) dL_law_670 rfl rfl rfl ?_
  refine s_aload_n (n := 672) dL_law_671 rfl rfl rfl ?_
  refine s_iload_n (n := 673) dL_law_672 rfl rfl rfl ?_
  refine s_iconst (v := 1) (n := 674) dL_law_673 rfl (by decide) ?_
  refine s_iadd (n := 675) dL_law_674 rfl ?_
  refine s_tload (i + 1) (n := 676) dL_law_675 rfl (List.mem_of_getElem? (i := 0) rfl) (by omega) (by rw [show (1 : Int32) = nI 1 from rfl, nI_add]) (by omega) ?_
  refine s_cv1 (n := 679) dL_law_676 rfl mo_X8_left ml_L_82 rfl (by decide) rfl rfl (Nat.le_of_ble_eq_true rfl) (Nat.le_of_ble_eq_true rfl) (s_less (by omega) (C_left (d := 0) hA hC _ (fun g2 hC2 hF2 => ?_)))
  have e200 : g2 200 = g 200 := hF2 200 (by decide)
  dsimp only [m_push]
  refine s_aload_n (n := 680) dL_law_679 rfl rfl rfl ?_
  refine s_aload_n (n := 681) dL_law_680 rfl rfl rfl ?_
  refine s_iload_n (n := 682) dL_law_681 rfl rfl rfl ?_
  refine s_iconst (v := 1) (n := 683) dL_law_682 rfl (by decide) ?_
  refine s_iadd (n := 684) dL_law_683 rfl ?_
  refine s_tload (i + 1) (n := 685) dL_law_684 rfl (List.mem_of_getElem? (i := 0) rfl) (by omega) (by rw [show (1 : Int32) = nI 1 from rfl, nI_add]) (by omega) ?_
  rw [e200]
  refine s_cv1 (n := 688) dL_law_685 rfl mo_X9_left ml_L_85 rfl (by decide) rfl rfl (Nat.le_of_ble_eq_true rfl) (Nat.le_of_ble_eq_true rfl) (s_less (by omega) (M_left (d := 0) hA (hM.fc hF2) _ (fun g3 hM3 hF3 => ?_)))
  dsimp only [m_push]
  refine s_icmp_eq (n := 691) (t := 1300) dL_law_688 (by decide) rfl (fun h688 => ?_) (fun h688 => ?_)
  · exact kk g3 _ (ok_left hA _) (hC2.fm hF3) hM3 ((hKS.c hF2).m hF3)
  · exact absurd rfl h688
theorem st_L_next {SL d : Nat} {Q : Option Int32 → m_G → Prop} (hSL : SL ≤ 384) {i : Nat} (hi : i + 6 ≤ SL) {g : m_G} {a : a_S} (hA : a_OK a) (hC : C_R g a) (hM : M_R g a) (hKS : K_S g) (kk : ∀ g3 a3, a_OK a3 → C_R g3 a3 → M_R g3 a3 → K_S g3 → Sim SL (d + 9) yL_law cL_law 4 (some .boolean) 1300 [.ref 200, .ref 0, .ref 78, .int (nI i)] [] g3 Q) : Sim SL (d + 9) yL_law cL_law 4 (some .boolean) 693 [.ref 200, .ref 0, .ref 78, .int (nI i)] [] g Q := by
  refine s_aload_n (n := 694) dL_law_693 rfl rfl rfl ?_
  refine s_aload_n (n := 695) dL_law_694 rfl rfl rfl ?_
  refine s_iload_n (n := 696) dL_law_695 rfl rfl rfl ?_
  refine s_iconst (v := 1) (n := 697) dL_law_696 rfl (by decide) ?_
  refine s_iadd (n := 698) dL_law_697 rfl ?_
  refine s_tload (i + 1) (n := 699) dL_law_698 rfl (List.mem_of_getElem? (i := 0) rfl) (by omega) (by rw [show (1 : Int32) = nI 1 from rfl, nI_add]) (by omega) ?_
  refine s_cv1 (n := 702) dL_law_699 rfl mo_X8_next ml_L_86 rfl (by decide) rfl rfl (Nat.le_of_ble_eq_true rfl) (Nat.le_of_ble_eq_true rfl) (s_less (by omega) (C_next (d := 0) hA hC _ (fun g2 hC2 hF2 => ?_)))
  have e200 : g2 200 = g 200 := hF2 200 (by decide)
  dsimp only [m_push]
  refine s_aload_n (n := 703) dL_law_702 rfl rfl rfl ?_
  refine s_aload_n (n := 704) dL_law_703 rfl rfl rfl ?_
  refine s_iload_n (n := 705) dL_law_704 rfl rfl rfl ?_
  refine s_iconst (v := 1) (n := 706) dL_law_705 rfl (by decide) ?_
  refine s_iadd (n := 707) dL_law_706 rfl ?_
  refine s_tload (i + 1) (n := 708) dL_law_707 rfl (List.mem_of_getElem? (i := 0) rfl) (by omega) (by rw [show (1 : Int32) = nI 1 from rfl, nI_add]) (by omega) ?_
  rw [e200]
  refine s_cv1 (n := 711) dL_law_708 rfl mo_X9_next ml_L_89 rfl (by decide) rfl rfl (Nat.le_of_ble_eq_true rfl) (Nat.le_of_ble_eq_true rfl) (s_less (by omega) (M_next (d := 0) hA (hM.fc hF2) _ (fun g3 hM3 hF3 => ?_)))
  dsimp only [m_push]
  refine s_icmp_eq (n := 714) (t := 1300) dL_law_711 (by decide) rfl (fun h711 => ?_) (fun h711 => ?_)
  · exact kk g3 _ (ok_next hA _) (hC2.fm hF3) hM3 ((hKS.c hF2).m hF3)
  · exact absurd rfl h711
theorem st_L_often {SL d : Nat} {Q : Option Int32 → m_G → Prop} (hSL : SL ≤ 384) {i : Nat} (hi : i + 6 ≤ SL) {g : m_G} {a : a_S} (hA : a_OK a) (hC : C_R g a) (hM : M_R g a) (hKS : K_S g) (kk : ∀ g3 a3, a_OK a3 → C_R g3 a3 → M_R g3 a3 → K_S g3 → Sim SL (d + 9) yL_law cL_law 4 (some .boolean) 1300 [.ref 200, .ref 0, .ref 78, .int (nI i)] [] g3 Q) : Sim SL (d + 9) yL_law cL_law 4 (some .boolean) 716 [.ref 200, .ref 0, .ref 78, .int (nI i)] [] g Q := by
  refine s_aload_n (n := 717) dL_law_716 rfl rfl rfl ?_
  refine s_aload_n (n := 718) dL_law_717 rfl rfl rfl ?_
  refine s_iload_n (n := 719) dL_law_718 rfl rfl rfl ?_
  refine s_iconst (v := 1) (n := 720) dL_law_719 rfl (by decide) ?_
  refine s_iadd (n := 721) dL_law_720 rfl ?_
  refine s_tload (i + 1) (n := 722) dL_law_721 rfl (List.mem_of_getElem? (i := 0) rfl) (by omega) (by rw [show (1 : Int32) = nI 1 from rfl, nI_add]) (by omega) ?_
  refine s_aload_n (n := 723) dL_law_722 rfl rfl rfl ?_
  refine s_iload_n (n := 724) dL_law_723 rfl rfl rfl ?_
  refine s_iconst (v := 2) (n := 725) dL_law_724 rfl (by decide) ?_
  refine s_iadd (n := 726) dL_law_725 rfl ?_
  refine s_tload (i + 2) (n := 727) dL_law_726 rfl (List.mem_of_getElem? (i := 0) rfl) (by omega) (by rw [show (2 : Int32) = nI 2 from rfl, nI_add]) (by omega) ?_
  refine s_cv2 (n := 730) dL_law_727 rfl mo_X8_often ml_L_90 rfl (by decide) rfl rfl (Nat.le_of_ble_eq_true rfl) (Nat.le_of_ble_eq_true rfl) (s_less (by omega) (C_often (d := 0) hA hC _ _ (fun g2 hC2 hF2 => ?_)))
  have e200 : g2 200 = g 200 := hF2 200 (by decide)
  dsimp only [m_push]
  refine s_aload_n (n := 731) dL_law_730 rfl rfl rfl ?_
  refine s_aload_n (n := 732) dL_law_731 rfl rfl rfl ?_
  refine s_iload_n (n := 733) dL_law_732 rfl rfl rfl ?_
  refine s_iconst (v := 1) (n := 734) dL_law_733 rfl (by decide) ?_
  refine s_iadd (n := 735) dL_law_734 rfl ?_
  refine s_tload (i + 1) (n := 736) dL_law_735 rfl (List.mem_of_getElem? (i := 0) rfl) (by omega) (by rw [show (1 : Int32) = nI 1 from rfl, nI_add]) (by omega) ?_
  refine s_aload_n (n := 737) dL_law_736 rfl rfl rfl ?_
  refine s_iload_n (n := 738) dL_law_737 rfl rfl rfl ?_
  refine s_iconst (v := 2) (n := 739) dL_law_738 rfl (by decide) ?_
  refine s_iadd (n := 740) dL_law_739 rfl ?_
  refine s_tload (i + 2) (n := 741) dL_law_740 rfl (List.mem_of_getElem? (i := 0) rfl) (by omega) (by rw [show (2 : Int32) = nI 2 from rfl, nI_add]) (by omega) ?_
  rw [e200]
  refine s_cv2 (n := 744) dL_law_741 rfl mo_X9_often ml_L_93 rfl (by decide) rfl rfl (Nat.le_of_ble_eq_true rfl) (Nat.le_of_ble_eq_true rfl) (s_less (by omega) (M_often (d := 0) hA (hM.fc hF2) _ _ (fun g3 hM3 hF3 => ?_)))
  dsimp only [m_push]
  refine s_icmp_eq (n := 747) (t := 1300) dL_law_744 (by decide) rfl (fun h744 => ?_) (fun h744 => ?_)
  · exact kk g3 _ (ok_often hA _ _) (hC2.fm hF3) hM3 ((hKS.c hF2).m hF3)
  · exact absurd rfl h744
theorem st_L_aim {SL d : Nat} {Q : Option Int32 → m_G → Prop} (hSL : SL ≤ 384) {i : Nat} (hi : i + 6 ≤ SL) {g : m_G} {a : a_S} (hA : a_OK a) (hC : C_R g a) (hM : M_R g a) (hKS : K_S g) (kk : ∀ g3 a3, a_OK a3 → C_R g3 a3 → M_R g3 a3 → K_S g3 → Sim SL (d + 9) yL_law cL_law 4 (some .boolean) 1300 [.ref 200, .ref 0, .ref 78, .int (nI i)] [] g3 Q) : Sim SL (d + 9) yL_law cL_law 4 (some .boolean) 749 [.ref 200, .ref 0, .ref 78, .int (nI i)] [] g Q := by
  refine s_aload_n (n := 750) dL_law_749 rfl rfl rfl ?_
  refine s_aload_n (n := 751) dL_law_750 rfl rfl rfl ?_
  refine s_iload_n (n := 752) dL_law_751 rfl rfl rfl ?_
  refine s_iconst (v := 1) (n := 753) dL_law_752 rfl (by decide) ?_
  refine s_iadd (n := 754) dL_law_753 rfl ?_
  refine s_tload (i + 1) (n := 755) dL_law_754 rfl (List.mem_of_getElem? (i := 0) rfl) (by omega) (by rw [show (1 : Int32) = nI 1 from rfl, nI_add]) (by omega) ?_
  refine s_aload_n (n := 756) dL_law_755 rfl rfl rfl ?_
  refine s_iload_n (n := 757) dL_law_756 rfl rfl rfl ?_
  refine s_iconst (v := 2) (n := 758) dL_law_757 rfl (by decide) ?_
  refine s_iadd (n := 759) dL_law_758 rfl ?_
  refine s_tload (i + 2) (n := 760) dL_law_759 rfl (List.mem_of_getElem? (i := 0) rfl) (by omega) (by rw [show (2 : Int32) = nI 2 from rfl, nI_add]) (by omega) ?_
  refine s_aload_n (n := 761) dL_law_760 rfl rfl rfl ?_
  refine s_iload_n (n := 762) dL_law_761 rfl rfl rfl ?_
  refine s_iconst (v := 3) (n := 763) dL_law_762 rfl (by decide) ?_
  refine s_iadd (n := 764) dL_law_763 rfl ?_
  refine s_tload (i + 3) (n := 765) dL_law_764 rfl (List.mem_of_getElem? (i := 0) rfl) (by omega) (by rw [show (3 : Int32) = nI 3 from rfl, nI_add]) (by omega) ?_
  refine s_cv3 (n := 768) dL_law_765 rfl mo_X8_aim ml_L_94 rfl (by decide) rfl rfl (Nat.le_of_ble_eq_true rfl) (Nat.le_of_ble_eq_true rfl) (s_less (by omega) (C_aim (d := 0) hA hC _ _ _ (fun g2 hC2 hF2 => ?_)))
  have e200 : g2 200 = g 200 := hF2 200 (by decide)
  dsimp only [m_push]
  refine s_aload_n (n := 769) dL_law_768 rfl rfl rfl ?_
  refine s_aload_n (n := 770) dL_law_769 rfl rfl rfl ?_
  refine s_iload_n (n := 771) dL_law_770 rfl rfl rfl ?_
  refine s_iconst (v := 1) (n := 772) dL_law_771 rfl (by decide) ?_
  refine s_iadd (n := 773) dL_law_772 rfl ?_
  refine s_tload (i + 1) (n := 774) dL_law_773 rfl (List.mem_of_getElem? (i := 0) rfl) (by omega) (by rw [show (1 : Int32) = nI 1 from rfl, nI_add]) (by omega) ?_
  refine s_aload_n (n := 775) dL_law_774 rfl rfl rfl ?_
  refine s_iload_n (n := 776) dL_law_775 rfl rfl rfl ?_
  refine s_iconst (v := 2) (n := 777) dL_law_776 rfl (by decide) ?_
  refine s_iadd (n := 778) dL_law_777 rfl ?_
  refine s_tload (i + 2) (n := 779) dL_law_778 rfl (List.mem_of_getElem? (i := 0) rfl) (by omega) (by rw [show (2 : Int32) = nI 2 from rfl, nI_add]) (by omega) ?_
  refine s_aload_n (n := 780) dL_law_779 rfl rfl rfl ?_
  refine s_iload_n (n := 781) dL_law_780 rfl rfl rfl ?_
  refine s_iconst (v := 3) (n := 782) dL_law_781 rfl (by decide) ?_
  refine s_iadd (n := 783) dL_law_782 rfl ?_
  refine s_tload (i + 3) (n := 784) dL_law_783 rfl (List.mem_of_getElem? (i := 0) rfl) (by omega) (by rw [show (3 : Int32) = nI 3 from rfl, nI_add]) (by omega) ?_
  rw [e200]
  refine s_cv3 (n := 787) dL_law_784 rfl mo_X9_aim ml_L_97 rfl (by decide) rfl rfl (Nat.le_of_ble_eq_true rfl) (Nat.le_of_ble_eq_true rfl) (s_less (by omega) (M_aim (d := 0) hA (hM.fc hF2) _ _ _ (fun g3 hM3 hF3 => ?_)))
  dsimp only [m_push]
  refine s_icmp_eq (n := 790) (t := 1300) dL_law_787 (by decide) rfl (fun h787 => ?_) (fun h787 => ?_)
  · exact kk g3 _ (ok_aim hA _ _ _) (hC2.fm hF3) hM3 ((hKS.c hF2).m hF3)
  · exact absurd rfl h787
theorem st_L_shun {SL d : Nat} {Q : Option Int32 → m_G → Prop} (hSL : SL ≤ 384) {i : Nat} (hi : i + 6 ≤ SL) {g : m_G} {a : a_S} (hA : a_OK a) (hC : C_R g a) (hM : M_R g a) (hKS : K_S g) (kk : ∀ g3 a3, a_OK a3 → C_R g3 a3 → M_R g3 a3 → K_S g3 → Sim SL (d + 9) yL_law cL_law 4 (some .boolean) 1300 [.ref 200, .ref 0, .ref 78, .int (nI i)] [] g3 Q) : Sim SL (d + 9) yL_law cL_law 4 (some .boolean) 792 [.ref 200, .ref 0, .ref 78, .int (nI i)] [] g Q := by
  refine s_aload_n (n := 793) dL_law_792 rfl rfl rfl ?_
  refine s_aload_n (n := 794) dL_law_793 rfl rfl rfl ?_
  refine s_iload_n (n := 795) dL_law_794 rfl rfl rfl ?_
  refine s_iconst (v := 1) (n := 796) dL_law_795 rfl (by decide) ?_
  refine s_iadd (n := 797) dL_law_796 rfl ?_
  refine s_tload (i + 1) (n := 798) dL_law_797 rfl (List.mem_of_getElem? (i := 0) rfl) (by omega) (by rw [show (1 : Int32) = nI 1 from rfl, nI_add]) (by omega) ?_
  refine s_aload_n (n := 799) dL_law_798 rfl rfl rfl ?_
  refine s_iload_n (n := 800) dL_law_799 rfl rfl rfl ?_
  refine s_iconst (v := 2) (n := 801) dL_law_800 rfl (by decide) ?_
  refine s_iadd (n := 802) dL_law_801 rfl ?_
  refine s_tload (i + 2) (n := 803) dL_law_802 rfl (List.mem_of_getElem? (i := 0) rfl) (by omega) (by rw [show (2 : Int32) = nI 2 from rfl, nI_add]) (by omega) ?_
  refine s_aload_n (n := 804) dL_law_803 rfl rfl rfl ?_
  refine s_iload_n (n := 805) dL_law_804 rfl rfl rfl ?_
  refine s_iconst (v := 3) (n := 806) dL_law_805 rfl (by decide) ?_
  refine s_iadd (n := 807) dL_law_806 rfl ?_
  refine s_tload (i + 3) (n := 808) dL_law_807 rfl (List.mem_of_getElem? (i := 0) rfl) (by omega) (by rw [show (3 : Int32) = nI 3 from rfl, nI_add]) (by omega) ?_
  refine s_cv3 (n := 811) dL_law_808 rfl mo_X8_shun ml_L_98 rfl (by decide) rfl rfl (Nat.le_of_ble_eq_true rfl) (Nat.le_of_ble_eq_true rfl) (s_less (by omega) (C_shun (d := 0) hA hC _ _ _ (fun g2 hC2 hF2 => ?_)))
  have e200 : g2 200 = g 200 := hF2 200 (by decide)
  dsimp only [m_push]
  refine s_aload_n (n := 812) dL_law_811 rfl rfl rfl ?_
  refine s_aload_n (n := 813) dL_law_812 rfl rfl rfl ?_
  refine s_iload_n (n := 814) dL_law_813 rfl rfl rfl ?_
  refine s_iconst (v := 1) (n := 815) dL_law_814 rfl (by decide) ?_
  refine s_iadd (n := 816) dL_law_815 rfl ?_
  refine s_tload (i + 1) (n := 817) dL_law_816 rfl (List.mem_of_getElem? (i := 0) rfl) (by omega) (by rw [show (1 : Int32) = nI 1 from rfl, nI_add]) (by omega) ?_
  refine s_aload_n (n := 818) dL_law_817 rfl rfl rfl ?_
  refine s_iload_n (n := 819) dL_law_818 rfl rfl rfl ?_
  refine s_iconst (v := 2) (n := 820) dL_law_819 rfl (by decide) ?_
  refine s_iadd (n := 821) dL_law_820 rfl ?_
  refine s_tload (i + 2) (n := 822) dL_law_821 rfl (List.mem_of_getElem? (i := 0) rfl) (by omega) (by rw [show (2 : Int32) = nI 2 from rfl, nI_add]) (by omega) ?_
  refine s_aload_n (n := 823) dL_law_822 rfl rfl rfl ?_
  refine s_iload_n (n := 824) dL_law_823 rfl rfl rfl ?_
  refine s_iconst (v := 3) (n := 825) dL_law_824 rfl (by decide) ?_
  refine s_iadd (n := 826) dL_law_825 rfl ?_
  refine s_tload (i + 3) (n := 827) dL_law_826 rfl (List.mem_of_getElem? (i := 0) rfl) (by omega) (by rw [show (3 : Int32) = nI 3 from rfl, nI_add]) (by omega) ?_
  rw [e200]
  refine s_cv3 (n := 830) dL_law_827 rfl mo_X9_shun ml_L_101 rfl (by decide) rfl rfl (Nat.le_of_ble_eq_true rfl) (Nat.le_of_ble_eq_true rfl) (s_less (by omega) (M_shun (d := 0) hA (hM.fc hF2) _ _ _ (fun g3 hM3 hF3 => ?_)))
  dsimp only [m_push]
  refine s_icmp_eq (n := 833) (t := 1300) dL_law_830 (by decide) rfl (fun h830 => ?_) (fun h830 => ?_)
  · exact kk g3 _ (ok_shun hA _ _ _) (hC2.fm hF3) hM3 ((hKS.c hF2).m hF3)
  · exact absurd rfl h830
theorem st_L_site {SL d : Nat} {Q : Option Int32 → m_G → Prop} (hSL : SL ≤ 384) {i : Nat} (hi : i + 6 ≤ SL) {g : m_G} {a : a_S} (hA : a_OK a) (hC : C_R g a) (hM : M_R g a) (hKS : K_S g) (kk : ∀ g3 a3, a_OK a3 → C_R g3 a3 → M_R g3 a3 → K_S g3 → Sim SL (d + 9) yL_law cL_law 4 (some .boolean) 1300 [.ref 200, .ref 0, .ref 78, .int (nI i)] [] g3 Q) : Sim SL (d + 9) yL_law cL_law 4 (some .boolean) 835 [.ref 200, .ref 0, .ref 78, .int (nI i)] [] g Q := by
  refine s_aload_n (n := 836) dL_law_835 rfl rfl rfl ?_
  refine s_aload_n (n := 837) dL_law_836 rfl rfl rfl ?_
  refine s_iload_n (n := 838) dL_law_837 rfl rfl rfl ?_
  refine s_iconst (v := 1) (n := 839) dL_law_838 rfl (by decide) ?_
  refine s_iadd (n := 840) dL_law_839 rfl ?_
  refine s_tload (i + 1) (n := 841) dL_law_840 rfl (List.mem_of_getElem? (i := 0) rfl) (by omega) (by rw [show (1 : Int32) = nI 1 from rfl, nI_add]) (by omega) ?_
  refine s_aload_n (n := 842) dL_law_841 rfl rfl rfl ?_
  refine s_iload_n (n := 843) dL_law_842 rfl rfl rfl ?_
  refine s_iconst (v := 2) (n := 844) dL_law_843 rfl (by decide) ?_
  refine s_iadd (n := 845) dL_law_844 rfl ?_
  refine s_tload (i + 2) (n := 846) dL_law_845 rfl (List.mem_of_getElem? (i := 0) rfl) (by omega) (by rw [show (2 : Int32) = nI 2 from rfl, nI_add]) (by omega) ?_
  refine s_aload_n (n := 847) dL_law_846 rfl rfl rfl ?_
  refine s_iload_n (n := 848) dL_law_847 rfl rfl rfl ?_
  refine s_iconst (v := 3) (n := 849) dL_law_848 rfl (by decide) ?_
  refine s_iadd (n := 850) dL_law_849 rfl ?_
  refine s_tload (i + 3) (n := 851) dL_law_850 rfl (List.mem_of_getElem? (i := 0) rfl) (by omega) (by rw [show (3 : Int32) = nI 3 from rfl, nI_add]) (by omega) ?_
  refine s_cv3 (n := 854) dL_law_851 rfl mo_X8_site ml_L_102 rfl (by decide) rfl rfl (Nat.le_of_ble_eq_true rfl) (Nat.le_of_ble_eq_true rfl) (s_less (by omega) (C_site (d := 0) hA hC _ _ _ (fun g2 hC2 hF2 => ?_)))
  have e200 : g2 200 = g 200 := hF2 200 (by decide)
  dsimp only [m_push]
  refine s_aload_n (n := 855) dL_law_854 rfl rfl rfl ?_
  refine s_aload_n (n := 856) dL_law_855 rfl rfl rfl ?_
  refine s_iload_n (n := 857) dL_law_856 rfl rfl rfl ?_
  refine s_iconst (v := 1) (n := 858) dL_law_857 rfl (by decide) ?_
  refine s_iadd (n := 859) dL_law_858 rfl ?_
  refine s_tload (i + 1) (n := 860) dL_law_859 rfl (List.mem_of_getElem? (i := 0) rfl) (by omega) (by rw [show (1 : Int32) = nI 1 from rfl, nI_add]) (by omega) ?_
  refine s_aload_n (n := 861) dL_law_860 rfl rfl rfl ?_
  refine s_iload_n (n := 862) dL_law_861 rfl rfl rfl ?_
  refine s_iconst (v := 2) (n := 863) dL_law_862 rfl (by decide) ?_
  refine s_iadd (n := 864) dL_law_863 rfl ?_
  refine s_tload (i + 2) (n := 865) dL_law_864 rfl (List.mem_of_getElem? (i := 0) rfl) (by omega) (by rw [show (2 : Int32) = nI 2 from rfl, nI_add]) (by omega) ?_
  refine s_aload_n (n := 866) dL_law_865 rfl rfl rfl ?_
  refine s_iload_n (n := 867) dL_law_866 rfl rfl rfl ?_
  refine s_iconst (v := 3) (n := 868) dL_law_867 rfl (by decide) ?_
  refine s_iadd (n := 869) dL_law_868 rfl ?_
  refine s_tload (i + 3) (n := 870) dL_law_869 rfl (List.mem_of_getElem? (i := 0) rfl) (by omega) (by rw [show (3 : Int32) = nI 3 from rfl, nI_add]) (by omega) ?_
  rw [e200]
  refine s_cv3 (n := 873) dL_law_870 rfl mo_X9_site ml_L_105 rfl (by decide) rfl rfl (Nat.le_of_ble_eq_true rfl) (Nat.le_of_ble_eq_true rfl) (s_less (by omega) (M_site (d := 0) hA (hM.fc hF2) _ _ _ (fun g3 hM3 hF3 => ?_)))
  dsimp only [m_push]
  refine s_icmp_eq (n := 876) (t := 1300) dL_law_873 (by decide) rfl (fun h873 => ?_) (fun h873 => ?_)
  · exact kk g3 _ (ok_site hA _ _ _) (hC2.fm hF3) hM3 ((hKS.c hF2).m hF3)
  · exact absurd rfl h873
theorem st_L_sulks {SL d : Nat} {Q : Option Int32 → m_G → Prop} (hSL : SL ≤ 384) {i : Nat} (hi : i + 6 ≤ SL) {g : m_G} {a : a_S} (hA : a_OK a) (hC : C_R g a) (hM : M_R g a) (hKS : K_S g) (kk : ∀ g3 a3, a_OK a3 → C_R g3 a3 → M_R g3 a3 → K_S g3 → Sim SL (d + 9) yL_law cL_law 4 (some .boolean) 1300 [.ref 200, .ref 0, .ref 78, .int (nI i)] [] g3 Q) : Sim SL (d + 9) yL_law cL_law 4 (some .boolean) 878 [.ref 200, .ref 0, .ref 78, .int (nI i)] [] g Q := by
  refine s_aload_n (n := 879) dL_law_878 rfl rfl rfl ?_
  refine s_cv0 (n := 882) dL_law_879 rfl mo_X8_sulks ml_L_106 rfl (by decide) rfl rfl (Nat.le_of_ble_eq_true rfl) (Nat.le_of_ble_eq_true rfl) (s_less (by omega) (C_sulks (d := 0) hA hC  (fun g2 hC2 hF2 => ?_)))
  have e200 : g2 200 = g 200 := hF2 200 (by decide)
  dsimp only [m_push]
  refine s_aload_n (n := 883) dL_law_882 rfl rfl rfl ?_
  skip
  refine s_cv0 (n := 886) dL_law_883 rfl mo_X9_sulks ml_L_109 rfl (by decide) rfl rfl (Nat.le_of_ble_eq_true rfl) (Nat.le_of_ble_eq_true rfl) (s_less (by omega) (M_sulks (d := 0) hA (hM.fc hF2)  (fun g3 hM3 hF3 => ?_)))
  dsimp only [m_push]
  refine s_icmp_eq (n := 889) (t := 1300) dL_law_886 (by decide) rfl (fun h886 => ?_) (fun h886 => ?_)
  · exact kk g3 _ (ok_sulks hA ) (hC2.fm hF3) hM3 ((hKS.c hF2).m hF3)
  · exact absurd rfl h886
theorem st_L_peace {SL d : Nat} {Q : Option Int32 → m_G → Prop} (hSL : SL ≤ 384) {i : Nat} (hi : i + 6 ≤ SL) {g : m_G} {a : a_S} (hA : a_OK a) (hC : C_R g a) (hM : M_R g a) (hKS : K_S g) (kk : ∀ g3 a3, a_OK a3 → C_R g3 a3 → M_R g3 a3 → K_S g3 → Sim SL (d + 9) yL_law cL_law 4 (some .boolean) 1300 [.ref 200, .ref 0, .ref 78, .int (nI i)] [] g3 Q) : Sim SL (d + 9) yL_law cL_law 4 (some .boolean) 891 [.ref 200, .ref 0, .ref 78, .int (nI i)] [] g Q := by
  refine s_aload_n (n := 892) dL_law_891 rfl rfl rfl ?_
  refine s_aload_n (n := 893) dL_law_892 rfl rfl rfl ?_
  refine s_iload_n (n := 894) dL_law_893 rfl rfl rfl ?_
  refine s_iconst (v := 1) (n := 895) dL_law_894 rfl (by decide) ?_
  refine s_iadd (n := 896) dL_law_895 rfl ?_
  refine s_tload (i + 1) (n := 897) dL_law_896 rfl (List.mem_of_getElem? (i := 0) rfl) (by omega) (by rw [show (1 : Int32) = nI 1 from rfl, nI_add]) (by omega) ?_
  refine s_cv1 (n := 900) dL_law_897 rfl mo_X8_peace ml_L_110 rfl (by decide) rfl rfl (Nat.le_of_ble_eq_true rfl) (Nat.le_of_ble_eq_true rfl) (s_less (by omega) (C_peace (d := 0) hA hC _ (fun g2 hC2 hF2 => ?_)))
  have e200 : g2 200 = g 200 := hF2 200 (by decide)
  dsimp only [m_push]
  refine s_aload_n (n := 901) dL_law_900 rfl rfl rfl ?_
  refine s_aload_n (n := 902) dL_law_901 rfl rfl rfl ?_
  refine s_iload_n (n := 903) dL_law_902 rfl rfl rfl ?_
  refine s_iconst (v := 1) (n := 904) dL_law_903 rfl (by decide) ?_
  refine s_iadd (n := 905) dL_law_904 rfl ?_
  refine s_tload (i + 1) (n := 906) dL_law_905 rfl (List.mem_of_getElem? (i := 0) rfl) (by omega) (by rw [show (1 : Int32) = nI 1 from rfl, nI_add]) (by omega) ?_
  rw [e200]
  refine s_cv1 (n := 909) dL_law_906 rfl mo_X9_peace ml_L_113 rfl (by decide) rfl rfl (Nat.le_of_ble_eq_true rfl) (Nat.le_of_ble_eq_true rfl) (s_less (by omega) (M_peace (d := 0) hA (hM.fc hF2) _ (fun g3 hM3 hF3 => ?_)))
  dsimp only [m_push]
  refine s_icmp_eq (n := 912) (t := 1300) dL_law_909 (by decide) rfl (fun h909 => ?_) (fun h909 => ?_)
  · exact kk g3 _ (ok_peace hA _) (hC2.fm hF3) hM3 ((hKS.c hF2).m hF3)
  · exact absurd rfl h909
theorem st_L_rolls {SL d : Nat} {Q : Option Int32 → m_G → Prop} (hSL : SL ≤ 384) {i : Nat} (hi : i + 6 ≤ SL) {g : m_G} {a : a_S} (hA : a_OK a) (hC : C_R g a) (hM : M_R g a) (hKS : K_S g) (kk : ∀ g3 a3, a_OK a3 → C_R g3 a3 → M_R g3 a3 → K_S g3 → Sim SL (d + 9) yL_law cL_law 4 (some .boolean) 1300 [.ref 200, .ref 0, .ref 78, .int (nI i)] [] g3 Q) : Sim SL (d + 9) yL_law cL_law 4 (some .boolean) 914 [.ref 200, .ref 0, .ref 78, .int (nI i)] [] g Q := by
  refine s_aload_n (n := 915) dL_law_914 rfl rfl rfl ?_
  refine s_aload_n (n := 916) dL_law_915 rfl rfl rfl ?_
  refine s_iload_n (n := 917) dL_law_916 rfl rfl rfl ?_
  refine s_iconst (v := 1) (n := 918) dL_law_917 rfl (by decide) ?_
  refine s_iadd (n := 919) dL_law_918 rfl ?_
  refine s_tload (i + 1) (n := 920) dL_law_919 rfl (List.mem_of_getElem? (i := 0) rfl) (by omega) (by rw [show (1 : Int32) = nI 1 from rfl, nI_add]) (by omega) ?_
  refine s_aload_n (n := 921) dL_law_920 rfl rfl rfl ?_
  refine s_iload_n (n := 922) dL_law_921 rfl rfl rfl ?_
  refine s_iconst (v := 2) (n := 923) dL_law_922 rfl (by decide) ?_
  refine s_iadd (n := 924) dL_law_923 rfl ?_
  refine s_tload (i + 2) (n := 925) dL_law_924 rfl (List.mem_of_getElem? (i := 0) rfl) (by omega) (by rw [show (2 : Int32) = nI 2 from rfl, nI_add]) (by omega) ?_
  refine s_aload_n (n := 926) dL_law_925 rfl rfl rfl ?_
  refine s_iload_n (n := 927) dL_law_926 rfl rfl rfl ?_
  refine s_iconst (v := 3) (n := 928) dL_law_927 rfl (by decide) ?_
  refine s_iadd (n := 929) dL_law_928 rfl ?_
  refine s_tload (i + 3) (n := 930) dL_law_929 rfl (List.mem_of_getElem? (i := 0) rfl) (by omega) (by rw [show (3 : Int32) = nI 3 from rfl, nI_add]) (by omega) ?_
  refine s_aload_n (n := 931) dL_law_930 rfl rfl rfl ?_
  refine s_iload_n (n := 932) dL_law_931 rfl rfl rfl ?_
  refine s_iconst (v := 4) (n := 933) dL_law_932 rfl (by decide) ?_
  refine s_iadd (n := 934) dL_law_933 rfl ?_
  refine s_tload (i + 4) (n := 935) dL_law_934 rfl (List.mem_of_getElem? (i := 0) rfl) (by omega) (by rw [show (4 : Int32) = nI 4 from rfl, nI_add]) (by omega) ?_
  refine s_cv4 (n := 938) dL_law_935 rfl mo_X8_rolls ml_L_114 rfl (by decide) rfl rfl (Nat.le_of_ble_eq_true rfl) (Nat.le_of_ble_eq_true rfl) (s_less (by omega) (C_rolls (d := 0) hA hC hKS _ _ _ _ (fun g2 hC2 hF2 => ?_)))
  have e200 : g2 200 = g 200 := hF2 200 (by decide)
  dsimp only [m_push]
  refine s_aload_n (n := 939) dL_law_938 rfl rfl rfl ?_
  refine s_aload_n (n := 940) dL_law_939 rfl rfl rfl ?_
  refine s_iload_n (n := 941) dL_law_940 rfl rfl rfl ?_
  refine s_iconst (v := 1) (n := 942) dL_law_941 rfl (by decide) ?_
  refine s_iadd (n := 943) dL_law_942 rfl ?_
  refine s_tload (i + 1) (n := 944) dL_law_943 rfl (List.mem_of_getElem? (i := 0) rfl) (by omega) (by rw [show (1 : Int32) = nI 1 from rfl, nI_add]) (by omega) ?_
  refine s_aload_n (n := 945) dL_law_944 rfl rfl rfl ?_
  refine s_iload_n (n := 946) dL_law_945 rfl rfl rfl ?_
  refine s_iconst (v := 2) (n := 947) dL_law_946 rfl (by decide) ?_
  refine s_iadd (n := 948) dL_law_947 rfl ?_
  refine s_tload (i + 2) (n := 949) dL_law_948 rfl (List.mem_of_getElem? (i := 0) rfl) (by omega) (by rw [show (2 : Int32) = nI 2 from rfl, nI_add]) (by omega) ?_
  refine s_aload_n (n := 950) dL_law_949 rfl rfl rfl ?_
  refine s_iload_n (n := 951) dL_law_950 rfl rfl rfl ?_
  refine s_iconst (v := 3) (n := 952) dL_law_951 rfl (by decide) ?_
  refine s_iadd (n := 953) dL_law_952 rfl ?_
  refine s_tload (i + 3) (n := 954) dL_law_953 rfl (List.mem_of_getElem? (i := 0) rfl) (by omega) (by rw [show (3 : Int32) = nI 3 from rfl, nI_add]) (by omega) ?_
  refine s_aload_n (n := 955) dL_law_954 rfl rfl rfl ?_
  refine s_iload_n (n := 956) dL_law_955 rfl rfl rfl ?_
  refine s_iconst (v := 4) (n := 957) dL_law_956 rfl (by decide) ?_
  refine s_iadd (n := 958) dL_law_957 rfl ?_
  refine s_tload (i + 4) (n := 959) dL_law_958 rfl (List.mem_of_getElem? (i := 0) rfl) (by omega) (by rw [show (4 : Int32) = nI 4 from rfl, nI_add]) (by omega) ?_
  rw [e200]
  refine s_cv4 (n := 962) dL_law_959 rfl mo_X9_rolls ml_L_118 rfl (by decide) rfl rfl (Nat.le_of_ble_eq_true rfl) (Nat.le_of_ble_eq_true rfl) (s_less (by omega) (M_rolls (d := 0) hA (hM.fc hF2) (hKS.c hF2) _ _ _ _ (fun g3 hM3 hF3 => ?_)))
  dsimp only [m_push]
  refine s_icmp_eq (n := 965) (t := 1300) dL_law_962 (by decide) rfl (fun h962 => ?_) (fun h962 => ?_)
  · exact kk g3 _ (ok_rolls hA _ _ _ _) (hC2.fm hF3) hM3 ((hKS.c hF2).m hF3)
  · exact absurd rfl h962
theorem st_L_sorts {SL d : Nat} {Q : Option Int32 → m_G → Prop} (hSL : SL ≤ 384) {i : Nat} (hi : i + 6 ≤ SL) {g : m_G} {a : a_S} (hA : a_OK a) (hC : C_R g a) (hM : M_R g a) (hKS : K_S g) (kk : ∀ g3 a3, a_OK a3 → C_R g3 a3 → M_R g3 a3 → K_S g3 → Sim SL (d + 9) yL_law cL_law 4 (some .boolean) 1300 [.ref 200, .ref 0, .ref 78, .int (nI i)] [] g3 Q) : Sim SL (d + 9) yL_law cL_law 4 (some .boolean) 967 [.ref 200, .ref 0, .ref 78, .int (nI i)] [] g Q := by
  refine s_aload_n (n := 968) dL_law_967 rfl rfl rfl ?_
  refine s_aload_n (n := 969) dL_law_968 rfl rfl rfl ?_
  refine s_iload_n (n := 970) dL_law_969 rfl rfl rfl ?_
  refine s_iconst (v := 1) (n := 971) dL_law_970 rfl (by decide) ?_
  refine s_iadd (n := 972) dL_law_971 rfl ?_
  refine s_tload (i + 1) (n := 973) dL_law_972 rfl (List.mem_of_getElem? (i := 0) rfl) (by omega) (by rw [show (1 : Int32) = nI 1 from rfl, nI_add]) (by omega) ?_
  refine s_aload_n (n := 974) dL_law_973 rfl rfl rfl ?_
  refine s_iload_n (n := 975) dL_law_974 rfl rfl rfl ?_
  refine s_iconst (v := 2) (n := 976) dL_law_975 rfl (by decide) ?_
  refine s_iadd (n := 977) dL_law_976 rfl ?_
  refine s_tload (i + 2) (n := 978) dL_law_977 rfl (List.mem_of_getElem? (i := 0) rfl) (by omega) (by rw [show (2 : Int32) = nI 2 from rfl, nI_add]) (by omega) ?_
  refine s_aload_n (n := 979) dL_law_978 rfl rfl rfl ?_
  refine s_iload_n (n := 980) dL_law_979 rfl rfl rfl ?_
  refine s_iconst (v := 3) (n := 981) dL_law_980 rfl (by decide) ?_
  refine s_iadd (n := 982) dL_law_981 rfl ?_
  refine s_tload (i + 3) (n := 983) dL_law_982 rfl (List.mem_of_getElem? (i := 0) rfl) (by omega) (by rw [show (3 : Int32) = nI 3 from rfl, nI_add]) (by omega) ?_
  refine s_aload_n (n := 984) dL_law_983 rfl rfl rfl ?_
  refine s_iload_n (n := 985) dL_law_984 rfl rfl rfl ?_
  refine s_iconst (v := 4) (n := 986) dL_law_985 rfl (by decide) ?_
  refine s_iadd (n := 987) dL_law_986 rfl ?_
  refine s_tload (i + 4) (n := 988) dL_law_987 rfl (List.mem_of_getElem? (i := 0) rfl) (by omega) (by rw [show (4 : Int32) = nI 4 from rfl, nI_add]) (by omega) ?_
  refine s_cv4 (n := 991) dL_law_988 rfl mo_X8_sorts ml_L_119 rfl (by decide) rfl rfl (Nat.le_of_ble_eq_true rfl) (Nat.le_of_ble_eq_true rfl) (s_less (by omega) (C_sorts (d := 0) hA hC _ _ _ _ (fun g2 hC2 hF2 => ?_)))
  have e200 : g2 200 = g 200 := hF2 200 (by decide)
  dsimp only [m_push]
  refine s_aload_n (n := 992) dL_law_991 rfl rfl rfl ?_
  refine s_aload_n (n := 993) dL_law_992 rfl rfl rfl ?_
  refine s_iload_n (n := 994) dL_law_993 rfl rfl rfl ?_
  refine s_iconst (v := 1) (n := 995) dL_law_994 rfl (by decide) ?_
  refine s_iadd (n := 996) dL_law_995 rfl ?_
  refine s_tload (i + 1) (n := 997) dL_law_996 rfl (List.mem_of_getElem? (i := 0) rfl) (by omega) (by rw [show (1 : Int32) = nI 1 from rfl, nI_add]) (by omega) ?_
  refine s_aload_n (n := 998) dL_law_997 rfl rfl rfl ?_
  refine s_iload_n (n := 999) dL_law_998 rfl rfl rfl ?_
  refine s_iconst (v := 2) (n := 1000) dL_law_999 rfl (by decide) ?_
  refine s_iadd (n := 1001) dL_law_1000 rfl ?_
  refine s_tload (i + 2) (n := 1002) dL_law_1001 rfl (List.mem_of_getElem? (i := 0) rfl) (by omega) (by rw [show (2 : Int32) = nI 2 from rfl, nI_add]) (by omega) ?_
  refine s_aload_n (n := 1003) dL_law_1002 rfl rfl rfl ?_
  refine s_iload_n (n := 1004) dL_law_1003 rfl rfl rfl ?_
  refine s_iconst (v := 3) (n := 1005) dL_law_1004 rfl (by decide) ?_
  refine s_iadd (n := 1006) dL_law_1005 rfl ?_
  refine s_tload (i + 3) (n := 1007) dL_law_1006 rfl (List.mem_of_getElem? (i := 0) rfl) (by omega) (by rw [show (3 : Int32) = nI 3 from rfl, nI_add]) (by omega) ?_
  refine s_aload_n (n := 1008) dL_law_1007 rfl rfl rfl ?_
  refine s_iload_n (n := 1009) dL_law_1008 rfl rfl rfl ?_
  refine s_iconst (v := 4) (n := 1010) dL_law_1009 rfl (by decide) ?_
  refine s_iadd (n := 1011) dL_law_1010 rfl ?_
  refine s_tload (i + 4) (n := 1012) dL_law_1011 rfl (List.mem_of_getElem? (i := 0) rfl) (by omega) (by rw [show (4 : Int32) = nI 4 from rfl, nI_add]) (by omega) ?_
  rw [e200]
  refine s_cv4 (n := 1015) dL_law_1012 rfl mo_X9_sorts ml_L_122 rfl (by decide) rfl rfl (Nat.le_of_ble_eq_true rfl) (Nat.le_of_ble_eq_true rfl) (s_less (by omega) (M_sorts (d := 0) hA (hM.fc hF2) _ _ _ _ (fun g3 hM3 hF3 => ?_)))
  dsimp only [m_push]
  refine s_icmp_eq (n := 1018) (t := 1300) dL_law_1015 (by decide) rfl (fun h1015 => ?_) (fun h1015 => ?_)
  · exact kk g3 _ (ok_sorts hA _ _ _ _) (hC2.fm hF3) hM3 ((hKS.c hF2).m hF3)
  · exact absurd rfl h1015
theorem st_L_play {SL d : Nat} {Q : Option Int32 → m_G → Prop} (hSL : SL ≤ 384) {i : Nat} (hi : i + 6 ≤ SL) {g : m_G} {a : a_S} (hA : a_OK a) (hC : C_R g a) (hM : M_R g a) (hKS : K_S g) (kk : ∀ g3 a3, a_OK a3 → C_R g3 a3 → M_R g3 a3 → K_S g3 → Sim SL (d + 9) yL_law cL_law 4 (some .boolean) 1300 [.ref 200, .ref 0, .ref 78, .int (nI i)] [] g3 Q) : Sim SL (d + 9) yL_law cL_law 4 (some .boolean) 1020 [.ref 200, .ref 0, .ref 78, .int (nI i)] [] g Q := by
  refine s_aload_n (n := 1021) dL_law_1020 rfl rfl rfl ?_
  refine s_aload_n (n := 1022) dL_law_1021 rfl rfl rfl ?_
  refine s_iload_n (n := 1023) dL_law_1022 rfl rfl rfl ?_
  refine s_iconst (v := 1) (n := 1024) dL_law_1023 rfl (by decide) ?_
  refine s_iadd (n := 1025) dL_law_1024 rfl ?_
  refine s_tload (i + 1) (n := 1026) dL_law_1025 rfl (List.mem_of_getElem? (i := 0) rfl) (by omega) (by rw [show (1 : Int32) = nI 1 from rfl, nI_add]) (by omega) ?_
  refine s_aload_n (n := 1027) dL_law_1026 rfl rfl rfl ?_
  refine s_iload_n (n := 1028) dL_law_1027 rfl rfl rfl ?_
  refine s_iconst (v := 2) (n := 1029) dL_law_1028 rfl (by decide) ?_
  refine s_iadd (n := 1030) dL_law_1029 rfl ?_
  refine s_tload (i + 2) (n := 1031) dL_law_1030 rfl (List.mem_of_getElem? (i := 0) rfl) (by omega) (by rw [show (2 : Int32) = nI 2 from rfl, nI_add]) (by omega) ?_
  refine s_aload_n (n := 1032) dL_law_1031 rfl rfl rfl ?_
  refine s_iload_n (n := 1033) dL_law_1032 rfl rfl rfl ?_
  refine s_iconst (v := 3) (n := 1034) dL_law_1033 rfl (by decide) ?_
  refine s_iadd (n := 1035) dL_law_1034 rfl ?_
  refine s_tload (i + 3) (n := 1036) dL_law_1035 rfl (List.mem_of_getElem? (i := 0) rfl) (by omega) (by rw [show (3 : Int32) = nI 3 from rfl, nI_add]) (by omega) ?_
  refine s_cv3 (n := 1039) dL_law_1036 rfl mo_X8_play ml_L_123 rfl (by decide) rfl rfl (Nat.le_of_ble_eq_true rfl) (Nat.le_of_ble_eq_true rfl) (s_less (by omega) (C_play (d := 0) hA hC _ _ _ (fun g2 hC2 hF2 => ?_)))
  have e200 : g2 200 = g 200 := hF2 200 (by decide)
  dsimp only [m_push]
  refine s_aload_n (n := 1040) dL_law_1039 rfl rfl rfl ?_
  refine s_aload_n (n := 1041) dL_law_1040 rfl rfl rfl ?_
  refine s_iload_n (n := 1042) dL_law_1041 rfl rfl rfl ?_
  refine s_iconst (v := 1) (n := 1043) dL_law_1042 rfl (by decide) ?_
  refine s_iadd (n := 1044) dL_law_1043 rfl ?_
  refine s_tload (i + 1) (n := 1045) dL_law_1044 rfl (List.mem_of_getElem? (i := 0) rfl) (by omega) (by rw [show (1 : Int32) = nI 1 from rfl, nI_add]) (by omega) ?_
  refine s_aload_n (n := 1046) dL_law_1045 rfl rfl rfl ?_
  refine s_iload_n (n := 1047) dL_law_1046 rfl rfl rfl ?_
  refine s_iconst (v := 2) (n := 1048) dL_law_1047 rfl (by decide) ?_
  refine s_iadd (n := 1049) dL_law_1048 rfl ?_
  refine s_tload (i + 2) (n := 1050) dL_law_1049 rfl (List.mem_of_getElem? (i := 0) rfl) (by omega) (by rw [show (2 : Int32) = nI 2 from rfl, nI_add]) (by omega) ?_
  refine s_aload_n (n := 1051) dL_law_1050 rfl rfl rfl ?_
  refine s_iload_n (n := 1052) dL_law_1051 rfl rfl rfl ?_
  refine s_iconst (v := 3) (n := 1053) dL_law_1052 rfl (by decide) ?_
  refine s_iadd (n := 1054) dL_law_1053 rfl ?_
  refine s_tload (i + 3) (n := 1055) dL_law_1054 rfl (List.mem_of_getElem? (i := 0) rfl) (by omega) (by rw [show (3 : Int32) = nI 3 from rfl, nI_add]) (by omega) ?_
  rw [e200]
  refine s_cv3 (n := 1058) dL_law_1055 rfl mo_X9_play ml_L_126 rfl (by decide) rfl rfl (Nat.le_of_ble_eq_true rfl) (Nat.le_of_ble_eq_true rfl) (s_less (by omega) (M_play (d := 0) hA (hM.fc hF2) _ _ _ (fun g3 hM3 hF3 => ?_)))
  dsimp only [m_push]
  refine s_icmp_eq (n := 1061) (t := 1300) dL_law_1058 (by decide) rfl (fun h1058 => ?_) (fun h1058 => ?_)
  · exact kk g3 _ (ok_play hA _ _ _) (hC2.fm hF3) hM3 ((hKS.c hF2).m hF3)
  · exact absurd rfl h1058
theorem st_L_drawn {SL d : Nat} {Q : Option Int32 → m_G → Prop} (hSL : SL ≤ 384) {i : Nat} (hi : i + 6 ≤ SL) {g : m_G} {a : a_S} (hA : a_OK a) (hC : C_R g a) (hM : M_R g a) (hKS : K_S g) (kk : ∀ g3 a3, a_OK a3 → C_R g3 a3 → M_R g3 a3 → K_S g3 → Sim SL (d + 9) yL_law cL_law 4 (some .boolean) 1300 [.ref 200, .ref 0, .ref 78, .int (nI i)] [] g3 Q) : Sim SL (d + 9) yL_law cL_law 4 (some .boolean) 1063 [.ref 200, .ref 0, .ref 78, .int (nI i)] [] g Q := by
  refine s_aload_n (n := 1064) dL_law_1063 rfl rfl rfl ?_
  refine s_aload_n (n := 1065) dL_law_1064 rfl rfl rfl ?_
  refine s_iload_n (n := 1066) dL_law_1065 rfl rfl rfl ?_
  refine s_iconst (v := 1) (n := 1067) dL_law_1066 rfl (by decide) ?_
  refine s_iadd (n := 1068) dL_law_1067 rfl ?_
  refine s_tload (i + 1) (n := 1069) dL_law_1068 rfl (List.mem_of_getElem? (i := 0) rfl) (by omega) (by rw [show (1 : Int32) = nI 1 from rfl, nI_add]) (by omega) ?_
  refine s_aload_n (n := 1070) dL_law_1069 rfl rfl rfl ?_
  refine s_iload_n (n := 1071) dL_law_1070 rfl rfl rfl ?_
  refine s_iconst (v := 2) (n := 1072) dL_law_1071 rfl (by decide) ?_
  refine s_iadd (n := 1073) dL_law_1072 rfl ?_
  refine s_tload (i + 2) (n := 1074) dL_law_1073 rfl (List.mem_of_getElem? (i := 0) rfl) (by omega) (by rw [show (2 : Int32) = nI 2 from rfl, nI_add]) (by omega) ?_
  refine s_aload_n (n := 1075) dL_law_1074 rfl rfl rfl ?_
  refine s_iload_n (n := 1076) dL_law_1075 rfl rfl rfl ?_
  refine s_iconst (v := 3) (n := 1077) dL_law_1076 rfl (by decide) ?_
  refine s_iadd (n := 1078) dL_law_1077 rfl ?_
  refine s_tload (i + 3) (n := 1079) dL_law_1078 rfl (List.mem_of_getElem? (i := 0) rfl) (by omega) (by rw [show (3 : Int32) = nI 3 from rfl, nI_add]) (by omega) ?_
  refine s_cv3 (n := 1082) dL_law_1079 rfl mo_X8_drawn ml_L_127 rfl (by decide) rfl rfl (Nat.le_of_ble_eq_true rfl) (Nat.le_of_ble_eq_true rfl) (s_less (by omega) (C_drawn (d := 0) hA hC _ _ _ (fun g2 hC2 hF2 => ?_)))
  have e200 : g2 200 = g 200 := hF2 200 (by decide)
  dsimp only [m_push]
  refine s_aload_n (n := 1083) dL_law_1082 rfl rfl rfl ?_
  refine s_aload_n (n := 1084) dL_law_1083 rfl rfl rfl ?_
  refine s_iload_n (n := 1085) dL_law_1084 rfl rfl rfl ?_
  refine s_iconst (v := 1) (n := 1086) dL_law_1085 rfl (by decide) ?_
  refine s_iadd (n := 1087) dL_law_1086 rfl ?_
  refine s_tload (i + 1) (n := 1088) dL_law_1087 rfl (List.mem_of_getElem? (i := 0) rfl) (by omega) (by rw [show (1 : Int32) = nI 1 from rfl, nI_add]) (by omega) ?_
  refine s_aload_n (n := 1089) dL_law_1088 rfl rfl rfl ?_
  refine s_iload_n (n := 1090) dL_law_1089 rfl rfl rfl ?_
  refine s_iconst (v := 2) (n := 1091) dL_law_1090 rfl (by decide) ?_
  refine s_iadd (n := 1092) dL_law_1091 rfl ?_
  refine s_tload (i + 2) (n := 1093) dL_law_1092 rfl (List.mem_of_getElem? (i := 0) rfl) (by omega) (by rw [show (2 : Int32) = nI 2 from rfl, nI_add]) (by omega) ?_
  refine s_aload_n (n := 1094) dL_law_1093 rfl rfl rfl ?_
  refine s_iload_n (n := 1095) dL_law_1094 rfl rfl rfl ?_
  refine s_iconst (v := 3) (n := 1096) dL_law_1095 rfl (by decide) ?_
  refine s_iadd (n := 1097) dL_law_1096 rfl ?_
  refine s_tload (i + 3) (n := 1098) dL_law_1097 rfl (List.mem_of_getElem? (i := 0) rfl) (by omega) (by rw [show (3 : Int32) = nI 3 from rfl, nI_add]) (by omega) ?_
  rw [e200]
  refine s_cv3 (n := 1101) dL_law_1098 rfl mo_X9_drawn ml_L_130 rfl (by decide) rfl rfl (Nat.le_of_ble_eq_true rfl) (Nat.le_of_ble_eq_true rfl) (s_less (by omega) (M_drawn (d := 0) hA (hM.fc hF2) _ _ _ (fun g3 hM3 hF3 => ?_)))
  dsimp only [m_push]
  refine s_icmp_eq (n := 1104) (t := 1300) dL_law_1101 (by decide) rfl (fun h1101 => ?_) (fun h1101 => ?_)
  · exact kk g3 _ (ok_drawn hA _ _ _) (hC2.fm hF3) hM3 ((hKS.c hF2).m hF3)
  · exact absurd rfl h1101
theorem st_L_image {SL d : Nat} {Q : Option Int32 → m_G → Prop} (hSL : SL ≤ 384) {i : Nat} (hi : i + 6 ≤ SL) {g : m_G} {a : a_S} (hA : a_OK a) (hC : C_R g a) (hM : M_R g a) (hKS : K_S g) (kk : ∀ g3 a3, a_OK a3 → C_R g3 a3 → M_R g3 a3 → K_S g3 → Sim SL (d + 9) yL_law cL_law 4 (some .boolean) 1300 [.ref 200, .ref 0, .ref 78, .int (nI i)] [] g3 Q) : Sim SL (d + 9) yL_law cL_law 4 (some .boolean) 1106 [.ref 200, .ref 0, .ref 78, .int (nI i)] [] g Q := by
  refine s_aload_n (n := 1107) dL_law_1106 rfl rfl rfl ?_
  refine s_aload_n (n := 1108) dL_law_1107 rfl rfl rfl ?_
  refine s_iload_n (n := 1109) dL_law_1108 rfl rfl rfl ?_
  refine s_iconst (v := 1) (n := 1110) dL_law_1109 rfl (by decide) ?_
  refine s_iadd (n := 1111) dL_law_1110 rfl ?_
  refine s_tload (i + 1) (n := 1112) dL_law_1111 rfl (List.mem_of_getElem? (i := 0) rfl) (by omega) (by rw [show (1 : Int32) = nI 1 from rfl, nI_add]) (by omega) ?_
  refine s_cv1 (n := 1115) dL_law_1112 rfl mo_X8_image ml_L_131 rfl (by decide) rfl rfl (Nat.le_of_ble_eq_true rfl) (Nat.le_of_ble_eq_true rfl) (s_less (by omega) (C_image (d := 0) hA hC _ (fun g2 hC2 hF2 => ?_)))
  have e200 : g2 200 = g 200 := hF2 200 (by decide)
  dsimp only [m_push]
  refine s_aload_n (n := 1116) dL_law_1115 rfl rfl rfl ?_
  refine s_aload_n (n := 1117) dL_law_1116 rfl rfl rfl ?_
  refine s_iload_n (n := 1118) dL_law_1117 rfl rfl rfl ?_
  refine s_iconst (v := 1) (n := 1119) dL_law_1118 rfl (by decide) ?_
  refine s_iadd (n := 1120) dL_law_1119 rfl ?_
  refine s_tload (i + 1) (n := 1121) dL_law_1120 rfl (List.mem_of_getElem? (i := 0) rfl) (by omega) (by rw [show (1 : Int32) = nI 1 from rfl, nI_add]) (by omega) ?_
  rw [e200]
  refine s_cv1 (n := 1124) dL_law_1121 rfl mo_X9_image ml_L_134 rfl (by decide) rfl rfl (Nat.le_of_ble_eq_true rfl) (Nat.le_of_ble_eq_true rfl) (s_less (by omega) (M_image (d := 0) hA (hM.fc hF2) _ (fun g3 hM3 hF3 => ?_)))
  dsimp only [m_push]
  refine s_icmp_eq (n := 1127) (t := 1300) dL_law_1124 (by decide) rfl (fun h1124 => ?_) (fun h1124 => ?_)
  · exact kk g3 _ (ok_image hA _) (hC2.fm hF3) hM3 ((hKS.c hF2).m hF3)
  · exact absurd rfl h1124
theorem st_L_restore {SL d : Nat} {Q : Option Int32 → m_G → Prop} (hSL : SL ≤ 384) {i : Nat} (hi : i + 6 ≤ SL) {g : m_G} {a : a_S} (hA : a_OK a) (hC : C_R g a) (hM : M_R g a) (hKS : K_S g) (kk : ∀ g3 a3, a_OK a3 → C_R g3 a3 → M_R g3 a3 → K_S g3 → Sim SL (d + 9) yL_law cL_law 4 (some .boolean) 1300 [.ref 200, .ref 0, .ref 78, .int (nI i)] [] g3 Q) : Sim SL (d + 9) yL_law cL_law 4 (some .boolean) 1129 [.ref 200, .ref 0, .ref 78, .int (nI i)] [] g Q := by
  refine s_aload_n (n := 1130) dL_law_1129 rfl rfl rfl ?_
  refine s_aload_n (n := 1131) dL_law_1130 rfl rfl rfl ?_
  refine s_iload_n (n := 1132) dL_law_1131 rfl rfl rfl ?_
  refine s_iconst (v := 1) (n := 1133) dL_law_1132 rfl (by decide) ?_
  refine s_iadd (n := 1134) dL_law_1133 rfl ?_
  refine s_tload (i + 1) (n := 1135) dL_law_1134 rfl (List.mem_of_getElem? (i := 0) rfl) (by omega) (by rw [show (1 : Int32) = nI 1 from rfl, nI_add]) (by omega) ?_
  refine s_cv1 (n := 1138) dL_law_1135 rfl mo_X8_restore ml_L_135 rfl (by decide) rfl rfl (Nat.le_of_ble_eq_true rfl) (Nat.le_of_ble_eq_true rfl) (s_less (by omega) (C_restore (d := 0) hA hC _ (fun g2 hC2 hF2 => ?_)))
  have e200 : g2 200 = g 200 := hF2 200 (by decide)
  dsimp only [m_push]
  refine s_aload_n (n := 1139) dL_law_1138 rfl rfl rfl ?_
  refine s_aload_n (n := 1140) dL_law_1139 rfl rfl rfl ?_
  refine s_iload_n (n := 1141) dL_law_1140 rfl rfl rfl ?_
  refine s_iconst (v := 1) (n := 1142) dL_law_1141 rfl (by decide) ?_
  refine s_iadd (n := 1143) dL_law_1142 rfl ?_
  refine s_tload (i + 1) (n := 1144) dL_law_1143 rfl (List.mem_of_getElem? (i := 0) rfl) (by omega) (by rw [show (1 : Int32) = nI 1 from rfl, nI_add]) (by omega) ?_
  rw [e200]
  refine s_cv1 (n := 1147) dL_law_1144 rfl mo_X9_restore ml_L_138 rfl (by decide) rfl rfl (Nat.le_of_ble_eq_true rfl) (Nat.le_of_ble_eq_true rfl) (s_less (by omega) (M_restore (d := 0) hA (hM.fc hF2) _ (fun g3 hM3 hF3 => ?_)))
  dsimp only [m_push]
  refine s_icmp_eq (n := 1150) (t := 1300) dL_law_1147 (by decide) rfl (fun h1147 => ?_) (fun h1147 => ?_)
  · exact kk g3 _ (ok_restore hA _) (hC2.fm hF3) hM3 ((hKS.c hF2).m hF3)
  · exact absurd rfl h1147
theorem st_L_kind {SL d : Nat} {Q : Option Int32 → m_G → Prop} (hSL : SL ≤ 384) {i : Nat} (hi : i + 6 ≤ SL) {g : m_G} {a : a_S} (hA : a_OK a) (hC : C_R g a) (hM : M_R g a) (hKS : K_S g) (kk : ∀ g3 a3, a_OK a3 → C_R g3 a3 → M_R g3 a3 → K_S g3 → Sim SL (d + 9) yL_law cL_law 4 (some .boolean) 1300 [.ref 200, .ref 0, .ref 78, .int (nI i)] [] g3 Q) : Sim SL (d + 9) yL_law cL_law 4 (some .boolean) 1152 [.ref 200, .ref 0, .ref 78, .int (nI i)] [] g Q := by
  refine s_aload_n (n := 1153) dL_law_1152 rfl rfl rfl ?_
  refine s_aload_n (n := 1154) dL_law_1153 rfl rfl rfl ?_
  refine s_iload_n (n := 1155) dL_law_1154 rfl rfl rfl ?_
  refine s_iconst (v := 1) (n := 1156) dL_law_1155 rfl (by decide) ?_
  refine s_iadd (n := 1157) dL_law_1156 rfl ?_
  refine s_tload (i + 1) (n := 1158) dL_law_1157 rfl (List.mem_of_getElem? (i := 0) rfl) (by omega) (by rw [show (1 : Int32) = nI 1 from rfl, nI_add]) (by omega) ?_
  refine s_cv1 (n := 1161) dL_law_1158 rfl mo_X8_kind ml_L_139 rfl (by decide) rfl rfl (Nat.le_of_ble_eq_true rfl) (Nat.le_of_ble_eq_true rfl) (s_less (by omega) (C_kind (d := 0) hA hC _ (fun g2 hC2 hF2 => ?_)))
  have e200 : g2 200 = g 200 := hF2 200 (by decide)
  dsimp only [m_push]
  refine s_aload_n (n := 1162) dL_law_1161 rfl rfl rfl ?_
  refine s_aload_n (n := 1163) dL_law_1162 rfl rfl rfl ?_
  refine s_iload_n (n := 1164) dL_law_1163 rfl rfl rfl ?_
  refine s_iconst (v := 1) (n := 1165) dL_law_1164 rfl (by decide) ?_
  refine s_iadd (n := 1166) dL_law_1165 rfl ?_
  refine s_tload (i + 1) (n := 1167) dL_law_1166 rfl (List.mem_of_getElem? (i := 0) rfl) (by omega) (by rw [show (1 : Int32) = nI 1 from rfl, nI_add]) (by omega) ?_
  rw [e200]
  refine s_cv1 (n := 1170) dL_law_1167 rfl mo_X9_kind ml_L_142 rfl (by decide) rfl rfl (Nat.le_of_ble_eq_true rfl) (Nat.le_of_ble_eq_true rfl) (s_less (by omega) (M_kind (d := 0) hA (hM.fc hF2) _ (fun g3 hM3 hF3 => ?_)))
  dsimp only [m_push]
  refine s_icmp_eq (n := 1173) (t := 1300) dL_law_1170 (by decide) rfl (fun h1170 => ?_) (fun h1170 => ?_)
  · exact kk g3 _ (ok_kind hA _) (hC2.fm hF3) hM3 ((hKS.c hF2).m hF3)
  · exact absurd rfl h1170
theorem st_L_as {SL d : Nat} {Q : Option Int32 → m_G → Prop} (hSL : SL ≤ 384) {i : Nat} (hi : i + 6 ≤ SL) {g : m_G} {a : a_S} (hA : a_OK a) (hC : C_R g a) (hM : M_R g a) (hKS : K_S g) (kk : ∀ g3 a3, a_OK a3 → C_R g3 a3 → M_R g3 a3 → K_S g3 → Sim SL (d + 9) yL_law cL_law 4 (some .boolean) 1300 [.ref 200, .ref 0, .ref 78, .int (nI i)] [] g3 Q) : Sim SL (d + 9) yL_law cL_law 4 (some .boolean) 1175 [.ref 200, .ref 0, .ref 78, .int (nI i)] [] g Q := by
  refine s_aload_n (n := 1176) dL_law_1175 rfl rfl rfl ?_
  refine s_aload_n (n := 1177) dL_law_1176 rfl rfl rfl ?_
  refine s_iload_n (n := 1178) dL_law_1177 rfl rfl rfl ?_
  refine s_iconst (v := 1) (n := 1179) dL_law_1178 rfl (by decide) ?_
  refine s_iadd (n := 1180) dL_law_1179 rfl ?_
  refine s_tload (i + 1) (n := 1181) dL_law_1180 rfl (List.mem_of_getElem? (i := 0) rfl) (by omega) (by rw [show (1 : Int32) = nI 1 from rfl, nI_add]) (by omega) ?_
  refine s_aload_n (n := 1182) dL_law_1181 rfl rfl rfl ?_
  refine s_iload_n (n := 1183) dL_law_1182 rfl rfl rfl ?_
  refine s_iconst (v := 2) (n := 1184) dL_law_1183 rfl (by decide) ?_
  refine s_iadd (n := 1185) dL_law_1184 rfl ?_
  refine s_tload (i + 2) (n := 1186) dL_law_1185 rfl (List.mem_of_getElem? (i := 0) rfl) (by omega) (by rw [show (2 : Int32) = nI 2 from rfl, nI_add]) (by omega) ?_
  refine s_cv2 (n := 1189) dL_law_1186 rfl mo_X8_as ml_L_143 rfl (by decide) rfl rfl (Nat.le_of_ble_eq_true rfl) (Nat.le_of_ble_eq_true rfl) (s_less (by omega) (C_as (d := 0) hA hC hKS _ _ (fun g2 hC2 hF2 => ?_)))
  have e200 : g2 200 = g 200 := hF2 200 (by decide)
  dsimp only [m_push]
  refine s_aload_n (n := 1190) dL_law_1189 rfl rfl rfl ?_
  refine s_aload_n (n := 1191) dL_law_1190 rfl rfl rfl ?_
  refine s_iload_n (n := 1192) dL_law_1191 rfl rfl rfl ?_
  refine s_iconst (v := 1) (n := 1193) dL_law_1192 rfl (by decide) ?_
  refine s_iadd (n := 1194) dL_law_1193 rfl ?_
  refine s_tload (i + 1) (n := 1195) dL_law_1194 rfl (List.mem_of_getElem? (i := 0) rfl) (by omega) (by rw [show (1 : Int32) = nI 1 from rfl, nI_add]) (by omega) ?_
  refine s_aload_n (n := 1196) dL_law_1195 rfl rfl rfl ?_
  refine s_iload_n (n := 1197) dL_law_1196 rfl rfl rfl ?_
  refine s_iconst (v := 2) (n := 1198) dL_law_1197 rfl (by decide) ?_
  refine s_iadd (n := 1199) dL_law_1198 rfl ?_
  refine s_tload (i + 2) (n := 1200) dL_law_1199 rfl (List.mem_of_getElem? (i := 0) rfl) (by omega) (by rw [show (2 : Int32) = nI 2 from rfl, nI_add]) (by omega) ?_
  rw [e200]
  refine s_cv2 (n := 1203) dL_law_1200 rfl mo_X9_as ml_L_146 rfl (by decide) rfl rfl (Nat.le_of_ble_eq_true rfl) (Nat.le_of_ble_eq_true rfl) (s_less (by omega) (M_as (d := 0) hA (hM.fc hF2) _ _ (fun g3 hM3 hF3 => ?_)))
  dsimp only [m_push]
  refine s_icmp_eq (n := 1206) (t := 1300) dL_law_1203 (by decide) rfl (fun h1203 => ?_) (fun h1203 => ?_)
  · exact kk g3 _ (ok_as hA _ _) (hC2.fm hF3) hM3 ((hKS.c hF2).m hF3)
  · exact absurd rfl h1203
theorem st_L_ask {SL d : Nat} {Q : Option Int32 → m_G → Prop} (hSL : SL ≤ 384) {i : Nat} (hi : i + 6 ≤ SL) {g : m_G} {a : a_S} (hA : a_OK a) (hC : C_R g a) (hM : M_R g a) (hKS : K_S g) (kk : ∀ g3 a3, a_OK a3 → C_R g3 a3 → M_R g3 a3 → K_S g3 → Sim SL (d + 9) yL_law cL_law 4 (some .boolean) 1300 [.ref 200, .ref 0, .ref 78, .int (nI i)] [] g3 Q) : Sim SL (d + 9) yL_law cL_law 4 (some .boolean) 1208 [.ref 200, .ref 0, .ref 78, .int (nI i)] [] g Q := by
  refine s_aload_n (n := 1209) dL_law_1208 rfl rfl rfl ?_
  refine s_aload_n (n := 1210) dL_law_1209 rfl rfl rfl ?_
  refine s_iload_n (n := 1211) dL_law_1210 rfl rfl rfl ?_
  refine s_iconst (v := 1) (n := 1212) dL_law_1211 rfl (by decide) ?_
  refine s_iadd (n := 1213) dL_law_1212 rfl ?_
  refine s_tload (i + 1) (n := 1214) dL_law_1213 rfl (List.mem_of_getElem? (i := 0) rfl) (by omega) (by rw [show (1 : Int32) = nI 1 from rfl, nI_add]) (by omega) ?_
  refine s_aload_n (n := 1215) dL_law_1214 rfl rfl rfl ?_
  refine s_iload_n (n := 1216) dL_law_1215 rfl rfl rfl ?_
  refine s_iconst (v := 2) (n := 1217) dL_law_1216 rfl (by decide) ?_
  refine s_iadd (n := 1218) dL_law_1217 rfl ?_
  refine s_tload (i + 2) (n := 1219) dL_law_1218 rfl (List.mem_of_getElem? (i := 0) rfl) (by omega) (by rw [show (2 : Int32) = nI 2 from rfl, nI_add]) (by omega) ?_
  refine s_cv2 (n := 1222) dL_law_1219 rfl mo_X8_ask ml_L_147 rfl (by decide) rfl rfl (Nat.le_of_ble_eq_true rfl) (Nat.le_of_ble_eq_true rfl) (s_less (by omega) (C_ask (d := 0) hA hC hKS _ _ (fun g2 hC2 hF2 => ?_)))
  have e200 : g2 200 = g 200 := hF2 200 (by decide)
  dsimp only [m_push]
  refine s_aload_n (n := 1223) dL_law_1222 rfl rfl rfl ?_
  refine s_aload_n (n := 1224) dL_law_1223 rfl rfl rfl ?_
  refine s_iload_n (n := 1225) dL_law_1224 rfl rfl rfl ?_
  refine s_iconst (v := 1) (n := 1226) dL_law_1225 rfl (by decide) ?_
  refine s_iadd (n := 1227) dL_law_1226 rfl ?_
  refine s_tload (i + 1) (n := 1228) dL_law_1227 rfl (List.mem_of_getElem? (i := 0) rfl) (by omega) (by rw [show (1 : Int32) = nI 1 from rfl, nI_add]) (by omega) ?_
  refine s_aload_n (n := 1229) dL_law_1228 rfl rfl rfl ?_
  refine s_iload_n (n := 1230) dL_law_1229 rfl rfl rfl ?_
  refine s_iconst (v := 2) (n := 1231) dL_law_1230 rfl (by decide) ?_
  refine s_iadd (n := 1232) dL_law_1231 rfl ?_
  refine s_tload (i + 2) (n := 1233) dL_law_1232 rfl (List.mem_of_getElem? (i := 0) rfl) (by omega) (by rw [show (2 : Int32) = nI 2 from rfl, nI_add]) (by omega) ?_
  rw [e200]
  refine s_cv2 (n := 1236) dL_law_1233 rfl mo_X9_ask ml_L_150 rfl (by decide) rfl rfl (Nat.le_of_ble_eq_true rfl) (Nat.le_of_ble_eq_true rfl) (s_less (by omega) (M_ask (d := 0) hA (hM.fc hF2) _ _ (fun g3 hM3 hF3 => ?_)))
  dsimp only [m_push]
  refine s_icmp_eq (n := 1239) (t := 1300) dL_law_1236 (by decide) rfl (fun h1236 => ?_) (fun h1236 => ?_)
  · exact kk g3 _ (ok_ask hA _ _) (hC2.fm hF3) hM3 ((hKS.c hF2).m hF3)
  · exact absurd rfl h1236
theorem st_L_trace {SL d : Nat} {Q : Option Int32 → m_G → Prop} (hSL : SL ≤ 384) {i : Nat} (hi : i + 6 ≤ SL) {g : m_G} {a : a_S} (hA : a_OK a) (hC : C_R g a) (hM : M_R g a) (hKS : K_S g) (kk : ∀ g3 a3, a_OK a3 → C_R g3 a3 → M_R g3 a3 → K_S g3 → Sim SL (d + 9) yL_law cL_law 4 (some .boolean) 1300 [.ref 200, .ref 0, .ref 78, .int (nI i)] [] g3 Q) : Sim SL (d + 9) yL_law cL_law 4 (some .boolean) 1241 [.ref 200, .ref 0, .ref 78, .int (nI i)] [] g Q := by
  refine s_aload_n (n := 1242) dL_law_1241 rfl rfl rfl ?_
  refine s_aload_n (n := 1243) dL_law_1242 rfl rfl rfl ?_
  refine s_iload_n (n := 1244) dL_law_1243 rfl rfl rfl ?_
  refine s_iconst (v := 1) (n := 1245) dL_law_1244 rfl (by decide) ?_
  refine s_iadd (n := 1246) dL_law_1245 rfl ?_
  refine s_tload (i + 1) (n := 1247) dL_law_1246 rfl (List.mem_of_getElem? (i := 0) rfl) (by omega) (by rw [show (1 : Int32) = nI 1 from rfl, nI_add]) (by omega) ?_
  refine s_cv1 (n := 1250) dL_law_1247 rfl mo_X8_trace ml_L_151 rfl (by decide) rfl rfl (Nat.le_of_ble_eq_true rfl) (Nat.le_of_ble_eq_true rfl) (s_less (by omega) (C_trace (d := 0) hA hC _ (fun g2 hC2 hF2 => ?_)))
  have e200 : g2 200 = g 200 := hF2 200 (by decide)
  dsimp only [m_push]
  refine s_aload_n (n := 1251) dL_law_1250 rfl rfl rfl ?_
  refine s_aload_n (n := 1252) dL_law_1251 rfl rfl rfl ?_
  refine s_iload_n (n := 1253) dL_law_1252 rfl rfl rfl ?_
  refine s_iconst (v := 1) (n := 1254) dL_law_1253 rfl (by decide) ?_
  refine s_iadd (n := 1255) dL_law_1254 rfl ?_
  refine s_tload (i + 1) (n := 1256) dL_law_1255 rfl (List.mem_of_getElem? (i := 0) rfl) (by omega) (by rw [show (1 : Int32) = nI 1 from rfl, nI_add]) (by omega) ?_
  rw [e200]
  refine s_cv1 (n := 1259) dL_law_1256 rfl mo_X9_trace ml_L_154 rfl (by decide) rfl rfl (Nat.le_of_ble_eq_true rfl) (Nat.le_of_ble_eq_true rfl) (s_less (by omega) (M_trace (d := 0) hA (hM.fc hF2) _ (fun g3 hM3 hF3 => ?_)))
  dsimp only [m_push]
  refine s_icmp_eq (n := 1262) (t := 1300) dL_law_1259 (by decide) rfl (fun h1259 => ?_) (fun h1259 => ?_)
  · exact kk g3 _ (ok_trace hA _) (hC2.fm hF3) hM3 ((hKS.c hF2).m hF3)
  · exact absurd rfl h1259
theorem st_L_count {SL d : Nat} {Q : Option Int32 → m_G → Prop} (hSL : SL ≤ 384) {i : Nat} (hi : i + 6 ≤ SL) {g : m_G} {a : a_S} (hA : a_OK a) (hC : C_R g a) (hM : M_R g a) (hKS : K_S g) (kk : ∀ g3 a3, a_OK a3 → C_R g3 a3 → M_R g3 a3 → K_S g3 → Sim SL (d + 9) yL_law cL_law 4 (some .boolean) 1300 [.ref 200, .ref 0, .ref 78, .int (nI i)] [] g3 Q) : Sim SL (d + 9) yL_law cL_law 4 (some .boolean) 1264 [.ref 200, .ref 0, .ref 78, .int (nI i)] [] g Q := by
  refine s_aload_n (n := 1265) dL_law_1264 rfl rfl rfl ?_
  refine s_aload_n (n := 1266) dL_law_1265 rfl rfl rfl ?_
  refine s_iload_n (n := 1267) dL_law_1266 rfl rfl rfl ?_
  refine s_iconst (v := 1) (n := 1268) dL_law_1267 rfl (by decide) ?_
  refine s_iadd (n := 1269) dL_law_1268 rfl ?_
  refine s_tload (i + 1) (n := 1270) dL_law_1269 rfl (List.mem_of_getElem? (i := 0) rfl) (by omega) (by rw [show (1 : Int32) = nI 1 from rfl, nI_add]) (by omega) ?_
  refine s_cv1 (n := 1273) dL_law_1270 rfl mo_X8_count ml_L_155 rfl (by decide) rfl rfl (Nat.le_of_ble_eq_true rfl) (Nat.le_of_ble_eq_true rfl) (s_less (by omega) (C_count (d := 0) hA hC _ (fun g2 hC2 hF2 => ?_)))
  have e200 : g2 200 = g 200 := hF2 200 (by decide)
  dsimp only [m_push]
  refine s_aload_n (n := 1274) dL_law_1273 rfl rfl rfl ?_
  refine s_aload_n (n := 1275) dL_law_1274 rfl rfl rfl ?_
  refine s_iload_n (n := 1276) dL_law_1275 rfl rfl rfl ?_
  refine s_iconst (v := 1) (n := 1277) dL_law_1276 rfl (by decide) ?_
  refine s_iadd (n := 1278) dL_law_1277 rfl ?_
  refine s_tload (i + 1) (n := 1279) dL_law_1278 rfl (List.mem_of_getElem? (i := 0) rfl) (by omega) (by rw [show (1 : Int32) = nI 1 from rfl, nI_add]) (by omega) ?_
  rw [e200]
  refine s_cv1 (n := 1282) dL_law_1279 rfl mo_X9_count ml_L_158 rfl (by decide) rfl rfl (Nat.le_of_ble_eq_true rfl) (Nat.le_of_ble_eq_true rfl) (s_less (by omega) (M_count (d := 0) hA (hM.fc hF2) _ (fun g3 hM3 hF3 => ?_)))
  dsimp only [m_push]
  refine s_icmp_eq (n := 1285) (t := 1300) dL_law_1282 (by decide) rfl (fun h1282 => ?_) (fun h1282 => ?_)
  · exact kk g3 _ (ok_count hA _) (hC2.fm hF3) hM3 ((hKS.c hF2).m hF3)
  · exact absurd rfl h1282
theorem st_L_status {SL d : Nat} {Q : Option Int32 → m_G → Prop} (hSL : SL ≤ 384) {i : Nat} (hi : i + 6 ≤ SL) {g : m_G} {a : a_S} (hA : a_OK a) (hC : C_R g a) (hM : M_R g a) (hKS : K_S g) (kk : ∀ g3 a3, a_OK a3 → C_R g3 a3 → M_R g3 a3 → K_S g3 → Sim SL (d + 9) yL_law cL_law 4 (some .boolean) 1300 [.ref 200, .ref 0, .ref 78, .int (nI i)] [] g3 Q) : Sim SL (d + 9) yL_law cL_law 4 (some .boolean) 1287 [.ref 200, .ref 0, .ref 78, .int (nI i)] [] g Q := by
  refine s_aload_n (n := 1288) dL_law_1287 rfl rfl rfl ?_
  refine s_cv0 (n := 1291) dL_law_1288 rfl mo_X8_status ml_L_159 rfl (by decide) rfl rfl (Nat.le_of_ble_eq_true rfl) (Nat.le_of_ble_eq_true rfl) (s_less (by omega) (C_status (d := 0) hA hC  (fun g2 hC2 hF2 => ?_)))
  have e200 : g2 200 = g 200 := hF2 200 (by decide)
  dsimp only [m_push]
  refine s_aload_n (n := 1292) dL_law_1291 rfl rfl rfl ?_
  skip
  refine s_cv0 (n := 1295) dL_law_1292 rfl mo_X9_status ml_L_162 rfl (by decide) rfl rfl (Nat.le_of_ble_eq_true rfl) (Nat.le_of_ble_eq_true rfl) (s_less (by omega) (M_status (d := 0) hA (hM.fc hF2)  (fun g3 hM3 hF3 => ?_)))
  dsimp only [m_push]
  refine s_icmp_eq (n := 1298) (t := 1300) dL_law_1295 (by decide) rfl (fun h1295 => ?_) (fun h1295 => ?_)
  · exact kk g3 _ (ok_status hA ) (hC2.fm hF3) hM3 ((hKS.c hF2).m hF3)
  · exact absurd rfl h1295
