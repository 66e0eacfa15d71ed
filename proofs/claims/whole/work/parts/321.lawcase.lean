section LC
variable {E : mm_E} {G : mm_G} {Q : State → Prop} {x m b L k : Nat} {cd : Nat → Nat} {xs : Nat → Int32} {σ : mm_M} {Y : Ps}
set_option maxHeartbeats 4000000 in
set_option maxRecDepth 100000 in
theorem lc_0 (X : mm_Cx E G cL_law 4 RL wsL_law room_1 ret) (gx : gX G x cd) (gm : gM G m cd) (hX : va_X b L xs (eS E) (eS E).heap) (hbl : b < (eS E).heap.size) (hbL : b ∉ mm_L G) (hL : L ≤ 3072) (hk6 : k + 6 ≤ L) (ok : okP Y) (hc : CR G x σ Y) (hm : MR G m σ Y) (hk : ∀ σ' Y', okP Y' → CR G x σ' Y' → MR G m σ' Y' → mm_At E G 4 Q σ' 1261 [(3, .int (nI k)), (2, .ref m), (1, .ref x), (0, .ref b)] []) : mm_At E G 4 Q σ 208 [(3, .int (nI k)), (2, .ref m), (1, .ref x), (0, .ref b)] [] := by
  obtain ⟨v, σ1, σ2, Y', e1, e2, ok', c', m'⟩ := Jc_use gx gm (J_row gx gm ok (xs (nI k + (1 : Int32)).toNatClampNeg) (xs (nI k + (2 : Int32)).toNatClampNeg)) hc hm
  refine at_aload_n (pc := 208) X 1 2 dL_law_208 rfl rfl ?_
  refine at_aload_n (pc := 209) X 0 3 dL_law_209 rfl rfl ?_
  refine at_iload_n (pc := 210) X 3 0 dL_law_210 rfl rfl ?_
  refine at_iconst (pc := 211) X (1 : Int32) dL_law_211 ic_1 ?_
  refine at_iadd (pc := 212) X dL_law_212 ?_
  refine at_sld (pc := 213) X hX hbl hbL (lw_in (j := 1) hL hk6 (by decide)) dL_law_213 ?_
  refine at_aload_n (pc := 214) X 0 3 dL_law_214 rfl rfl ?_
  refine at_iload_n (pc := 215) X 3 0 dL_law_215 rfl rfl ?_
  refine at_iconst (pc := 216) X (2 : Int32) dL_law_216 ic_2 ?_
  refine at_iadd (pc := 217) X dL_law_217 ?_
  refine at_sld (pc := 218) X hX hbl hbL (lw_in (j := 2) hL hk6 (by decide)) dL_law_218 ?_
  refine at_calli (n := 2) (pc := 219) X 3 [.int (xs (nI k + (1 : Int32)).toNatClampNeg), .int (xs (nI k + (2 : Int32)).toNatClampNeg)] [] (mX3_row (eL E) X.wf gx.1 e1) gL_law_X3_row rfl ⟨rfl, rfl⟩ (by decide +kernel) ⟨Nat.le_of_ble_eq_true rfl, Nat.le_of_ble_eq_true rfl⟩ (by decide) rfl gx.1 rfl rfl (Nat.le_of_ble_eq_true rfl) dL_law_219 ?_
  refine at_aload_n (pc := 222) X 2 1 dL_law_222 rfl rfl ?_
  refine at_aload_n (pc := 223) X 0 3 dL_law_223 rfl rfl ?_
  refine at_iload_n (pc := 224) X 3 0 dL_law_224 rfl rfl ?_
  refine at_iconst (pc := 225) X (1 : Int32) dL_law_225 ic_1 ?_
  refine at_iadd (pc := 226) X dL_law_226 ?_
  refine at_sld (pc := 227) X hX hbl hbL (lw_in (j := 1) hL hk6 (by decide)) dL_law_227 ?_
  refine at_aload_n (pc := 228) X 0 3 dL_law_228 rfl rfl ?_
  refine at_iload_n (pc := 229) X 3 0 dL_law_229 rfl rfl ?_
  refine at_iconst (pc := 230) X (2 : Int32) dL_law_230 ic_2 ?_
  refine at_iadd (pc := 231) X dL_law_231 ?_
  refine at_sld (pc := 232) X hX hbl hbL (lw_in (j := 2) hL hk6 (by decide)) dL_law_232 ?_
  refine at_calli (n := 2) (pc := 233) X 4 [.int (xs (nI k + (1 : Int32)).toNatClampNeg), .int (xs (nI k + (2 : Int32)).toNatClampNeg)] [.int v] (mX4_row (eL E) X.wf gm.1 e2) gL_law_X4_row rfl ⟨rfl, rfl⟩ (by decide +kernel) ⟨Nat.le_of_ble_eq_true rfl, Nat.le_of_ble_eq_true rfl⟩ (by decide) rfl gm.1 rfl rfl (Nat.le_of_ble_eq_true rfl) dL_law_233 ?_
  refine at_icmp_eq (pc := 236) X 1261 dL_law_236 (by decide) (fun c => ?_) (fun c => absurd rfl c)
  exact hk σ2 Y' ok' c' m'
set_option maxHeartbeats 4000000 in
set_option maxRecDepth 100000 in
theorem lc_1 (X : mm_Cx E G cL_law 4 RL wsL_law room_1 ret) (gx : gX G x cd) (gm : gM G m cd) (hX : va_X b L xs (eS E) (eS E).heap) (hbl : b < (eS E).heap.size) (hbL : b ∉ mm_L G) (hL : L ≤ 3072) (hk6 : k + 6 ≤ L) (ok : okP Y) (hc : CR G x σ Y) (hm : MR G m σ Y) (hk : ∀ σ' Y', okP Y' → CR G x σ' Y' → MR G m σ' Y' → mm_At E G 4 Q σ' 1261 [(3, .int (nI k)), (2, .ref m), (1, .ref x), (0, .ref b)] []) : mm_At E G 4 Q σ 241 [(3, .int (nI k)), (2, .ref m), (1, .ref x), (0, .ref b)] [] := by
  obtain ⟨v, σ1, σ2, Y', e1, e2, ok', c', m'⟩ := Jc_use gx gm (J_lay gx gm ok (xs (nI k + (1 : Int32)).toNatClampNeg) (xs (nI k + (2 : Int32)).toNatClampNeg) (xs (nI k + (3 : Int32)).toNatClampNeg)) hc hm
  refine at_aload_n (pc := 241) X 1 2 dL_law_241 rfl rfl ?_
  refine at_aload_n (pc := 242) X 0 3 dL_law_242 rfl rfl ?_
  refine at_iload_n (pc := 243) X 3 0 dL_law_243 rfl rfl ?_
  refine at_iconst (pc := 244) X (1 : Int32) dL_law_244 ic_1 ?_
  refine at_iadd (pc := 245) X dL_law_245 ?_
  refine at_sld (pc := 246) X hX hbl hbL (lw_in (j := 1) hL hk6 (by decide)) dL_law_246 ?_
  refine at_aload_n (pc := 247) X 0 3 dL_law_247 rfl rfl ?_
  refine at_iload_n (pc := 248) X 3 0 dL_law_248 rfl rfl ?_
  refine at_iconst (pc := 249) X (2 : Int32) dL_law_249 ic_2 ?_
  refine at_iadd (pc := 250) X dL_law_250 ?_
  refine at_sld (pc := 251) X hX hbl hbL (lw_in (j := 2) hL hk6 (by decide)) dL_law_251 ?_
  refine at_aload_n (pc := 252) X 0 3 dL_law_252 rfl rfl ?_
  refine at_iload_n (pc := 253) X 3 0 dL_law_253 rfl rfl ?_
  refine at_iconst (pc := 254) X (3 : Int32) dL_law_254 ic_3 ?_
  refine at_iadd (pc := 255) X dL_law_255 ?_
  refine at_sld (pc := 256) X hX hbl hbL (lw_in (j := 3) hL hk6 (by decide)) dL_law_256 ?_
  refine at_calli (n := 3) (pc := 257) X 3 [.int (xs (nI k + (1 : Int32)).toNatClampNeg), .int (xs (nI k + (2 : Int32)).toNatClampNeg), .int (xs (nI k + (3 : Int32)).toNatClampNeg)] [] (mX3_lay (eL E) X.wf gx.1 e1) gL_law_X3_lay rfl ⟨rfl, rfl⟩ (by decide +kernel) ⟨Nat.le_of_ble_eq_true rfl, Nat.le_of_ble_eq_true rfl⟩ (by decide) rfl gx.1 rfl rfl (Nat.le_of_ble_eq_true rfl) dL_law_257 ?_
  refine at_aload_n (pc := 260) X 2 1 dL_law_260 rfl rfl ?_
  refine at_aload_n (pc := 261) X 0 3 dL_law_261 rfl rfl ?_
  refine at_iload_n (pc := 262) X 3 0 dL_law_262 rfl rfl ?_
  refine at_iconst (pc := 263) X (1 : Int32) dL_law_263 ic_1 ?_
  refine at_iadd (pc := 264) X dL_law_264 ?_
  refine at_sld (pc := 265) X hX hbl hbL (lw_in (j := 1) hL hk6 (by decide)) dL_law_265 ?_
  refine at_aload_n (pc := 266) X 0 3 dL_law_266 rfl rfl ?_
  refine at_iload_n (pc := 267) X 3 0 dL_law_267 rfl rfl ?_
  refine at_iconst (pc := 268) X (2 : Int32) dL_law_268 ic_2 ?_
  refine at_iadd (pc := 269) X dL_law_269 ?_
  refine at_sld (pc := 270) X hX hbl hbL (lw_in (j := 2) hL hk6 (by decide)) dL_law_270 ?_
  refine at_aload_n (pc := 271) X 0 3 dL_law_271 rfl rfl ?_
  refine at_iload_n (pc := 272) X 3 0 dL_law_272 rfl rfl ?_
  refine at_iconst (pc := 273) X (3 : Int32) dL_law_273 ic_3 ?_
  refine at_iadd (pc := 274) X dL_law_274 ?_
  refine at_sld (pc := 275) X hX hbl hbL (lw_in (j := 3) hL hk6 (by decide)) dL_law_275 ?_
  refine at_calli (n := 3) (pc := 276) X 4 [.int (xs (nI k + (1 : Int32)).toNatClampNeg), .int (xs (nI k + (2 : Int32)).toNatClampNeg), .int (xs (nI k + (3 : Int32)).toNatClampNeg)] [.int v] (mX4_lay (eL E) X.wf gm.1 e2) gL_law_X4_lay rfl ⟨rfl, rfl⟩ (by decide +kernel) ⟨Nat.le_of_ble_eq_true rfl, Nat.le_of_ble_eq_true rfl⟩ (by decide) rfl gm.1 rfl rfl (Nat.le_of_ble_eq_true rfl) dL_law_276 ?_
  refine at_icmp_eq (pc := 279) X 1261 dL_law_279 (by decide) (fun c => ?_) (fun c => absurd rfl c)
  exact hk σ2 Y' ok' c' m'
set_option maxHeartbeats 4000000 in
set_option maxRecDepth 100000 in
theorem lc_2 (X : mm_Cx E G cL_law 4 RL wsL_law room_1 ret) (gx : gX G x cd) (gm : gM G m cd) (hX : va_X b L xs (eS E) (eS E).heap) (hbl : b < (eS E).heap.size) (hbL : b ∉ mm_L G) (hL : L ≤ 3072) (hk6 : k + 6 ≤ L) (ok : okP Y) (hc : CR G x σ Y) (hm : MR G m σ Y) (hk : ∀ σ' Y', okP Y' → CR G x σ' Y' → MR G m σ' Y' → mm_At E G 4 Q σ' 1261 [(3, .int (nI k)), (2, .ref m), (1, .ref x), (0, .ref b)] []) : mm_At E G 4 Q σ 284 [(3, .int (nI k)), (2, .ref m), (1, .ref x), (0, .ref b)] [] := by
  obtain ⟨v, σ1, σ2, Y', e1, e2, ok', c', m'⟩ := Jc_use gx gm (J_at gx gm ok (xs (nI k + (1 : Int32)).toNatClampNeg) (xs (nI k + (2 : Int32)).toNatClampNeg)) hc hm
  refine at_aload_n (pc := 284) X 1 2 dL_law_284 rfl rfl ?_
  refine at_aload_n (pc := 285) X 0 3 dL_law_285 rfl rfl ?_
  refine at_iload_n (pc := 286) X 3 0 dL_law_286 rfl rfl ?_
  refine at_iconst (pc := 287) X (1 : Int32) dL_law_287 ic_1 ?_
  refine at_iadd (pc := 288) X dL_law_288 ?_
  refine at_sld (pc := 289) X hX hbl hbL (lw_in (j := 1) hL hk6 (by decide)) dL_law_289 ?_
  refine at_aload_n (pc := 290) X 0 3 dL_law_290 rfl rfl ?_
  refine at_iload_n (pc := 291) X 3 0 dL_law_291 rfl rfl ?_
  refine at_iconst (pc := 292) X (2 : Int32) dL_law_292 ic_2 ?_
  refine at_iadd (pc := 293) X dL_law_293 ?_
  refine at_sld (pc := 294) X hX hbl hbL (lw_in (j := 2) hL hk6 (by decide)) dL_law_294 ?_
  refine at_calli (n := 2) (pc := 295) X 3 [.int (xs (nI k + (1 : Int32)).toNatClampNeg), .int (xs (nI k + (2 : Int32)).toNatClampNeg)] [] (mX3_at (eL E) X.wf gx.1 e1) gL_law_X3_at rfl ⟨rfl, rfl⟩ (by decide +kernel) ⟨Nat.le_of_ble_eq_true rfl, Nat.le_of_ble_eq_true rfl⟩ (by decide) rfl gx.1 rfl rfl (Nat.le_of_ble_eq_true rfl) dL_law_295 ?_
  refine at_aload_n (pc := 298) X 2 1 dL_law_298 rfl rfl ?_
  refine at_aload_n (pc := 299) X 0 3 dL_law_299 rfl rfl ?_
  refine at_iload_n (pc := 300) X 3 0 dL_law_300 rfl rfl ?_
  refine at_iconst (pc := 301) X (1 : Int32) dL_law_301 ic_1 ?_
  refine at_iadd (pc := 302) X dL_law_302 ?_
  refine at_sld (pc := 303) X hX hbl hbL (lw_in (j := 1) hL hk6 (by decide)) dL_law_303 ?_
  refine at_aload_n (pc := 304) X 0 3 dL_law_304 rfl rfl ?_
  refine at_iload_n (pc := 305) X 3 0 dL_law_305 rfl rfl ?_
  refine at_iconst (pc := 306) X (2 : Int32) dL_law_306 ic_2 ?_
  refine at_iadd (pc := 307) X dL_law_307 ?_
  refine at_sld (pc := 308) X hX hbl hbL (lw_in (j := 2) hL hk6 (by decide)) dL_law_308 ?_
  refine at_calli (n := 2) (pc := 309) X 4 [.int (xs (nI k + (1 : Int32)).toNatClampNeg), .int (xs (nI k + (2 : Int32)).toNatClampNeg)] [.int v] (mX4_at (eL E) X.wf gm.1 e2) gL_law_X4_at rfl ⟨rfl, rfl⟩ (by decide +kernel) ⟨Nat.le_of_ble_eq_true rfl, Nat.le_of_ble_eq_true rfl⟩ (by decide) rfl gm.1 rfl rfl (Nat.le_of_ble_eq_true rfl) dL_law_309 ?_
  refine at_icmp_eq (pc := 312) X 1261 dL_law_312 (by decide) (fun c => ?_) (fun c => absurd rfl c)
  exact hk σ2 Y' ok' c' m'
set_option maxHeartbeats 4000000 in
set_option maxRecDepth 100000 in
theorem lc_3 (X : mm_Cx E G cL_law 4 RL wsL_law room_1 ret) (gx : gX G x cd) (gm : gM G m cd) (hX : va_X b L xs (eS E) (eS E).heap) (hbl : b < (eS E).heap.size) (hbL : b ∉ mm_L G) (hL : L ≤ 3072) (hk6 : k + 6 ≤ L) (ok : okP Y) (hc : CR G x σ Y) (hm : MR G m σ Y) (hk : ∀ σ' Y', okP Y' → CR G x σ' Y' → MR G m σ' Y' → mm_At E G 4 Q σ' 1261 [(3, .int (nI k)), (2, .ref m), (1, .ref x), (0, .ref b)] []) : mm_At E G 4 Q σ 317 [(3, .int (nI k)), (2, .ref m), (1, .ref x), (0, .ref b)] [] := by
  obtain ⟨v, σ1, σ2, Y', e1, e2, ok', c', m'⟩ := Jc_use gx gm (J_tear gx gm ok (xs (nI k + (1 : Int32)).toNatClampNeg)) hc hm
  refine at_aload_n (pc := 317) X 1 2 dL_law_317 rfl rfl ?_
  refine at_aload_n (pc := 318) X 0 3 dL_law_318 rfl rfl ?_
  refine at_iload_n (pc := 319) X 3 0 dL_law_319 rfl rfl ?_
  refine at_iconst (pc := 320) X (1 : Int32) dL_law_320 ic_1 ?_
  refine at_iadd (pc := 321) X dL_law_321 ?_
  refine at_sld (pc := 322) X hX hbl hbL (lw_in (j := 1) hL hk6 (by decide)) dL_law_322 ?_
  refine at_calli (n := 1) (pc := 323) X 3 [.int (xs (nI k + (1 : Int32)).toNatClampNeg)] [] (mX3_tear (eL E) X.wf gx.1 e1) gL_law_X3_tear rfl ⟨rfl, rfl⟩ (by decide +kernel) ⟨Nat.le_of_ble_eq_true rfl, Nat.le_of_ble_eq_true rfl⟩ (by decide) rfl gx.1 rfl rfl (Nat.le_of_ble_eq_true rfl) dL_law_323 ?_
  refine at_aload_n (pc := 326) X 2 1 dL_law_326 rfl rfl ?_
  refine at_aload_n (pc := 327) X 0 3 dL_law_327 rfl rfl ?_
  refine at_iload_n (pc := 328) X 3 0 dL_law_328 rfl rfl ?_
  refine at_iconst (pc := 329) X (1 : Int32) dL_law_329 ic_1 ?_
  refine at_iadd (pc := 330) X dL_law_330 ?_
  refine at_sld (pc := 331) X hX hbl hbL (lw_in (j := 1) hL hk6 (by decide)) dL_law_331 ?_
  refine at_calli (n := 1) (pc := 332) X 4 [.int (xs (nI k + (1 : Int32)).toNatClampNeg)] [.int v] (mX4_tear (eL E) X.wf gm.1 e2) gL_law_X4_tear rfl ⟨rfl, rfl⟩ (by decide +kernel) ⟨Nat.le_of_ble_eq_true rfl, Nat.le_of_ble_eq_true rfl⟩ (by decide) rfl gm.1 rfl rfl (Nat.le_of_ble_eq_true rfl) dL_law_332 ?_
  refine at_icmp_eq (pc := 335) X 1261 dL_law_335 (by decide) (fun c => ?_) (fun c => absurd rfl c)
  exact hk σ2 Y' ok' c' m'
set_option maxHeartbeats 4000000 in
set_option maxRecDepth 100000 in
theorem lc_4 (X : mm_Cx E G cL_law 4 RL wsL_law room_1 ret) (gx : gX G x cd) (gm : gM G m cd) (hX : va_X b L xs (eS E) (eS E).heap) (hbl : b < (eS E).heap.size) (hbL : b ∉ mm_L G) (hL : L ≤ 3072) (hk6 : k + 6 ≤ L) (ok : okP Y) (hc : CR G x σ Y) (hm : MR G m σ Y) (hk : ∀ σ' Y', okP Y' → CR G x σ' Y' → MR G m σ' Y' → mm_At E G 4 Q σ' 1261 [(3, .int (nI k)), (2, .ref m), (1, .ref x), (0, .ref b)] []) : mm_At E G 4 Q σ 340 [(3, .int (nI k)), (2, .ref m), (1, .ref x), (0, .ref b)] [] := by
  obtain ⟨v, σ1, σ2, Y', e1, e2, ok', c', m'⟩ := Jc_use gx gm (J_copy gx gm ok (xs (nI k + (1 : Int32)).toNatClampNeg) (xs (nI k + (2 : Int32)).toNatClampNeg) (xs (nI k + (3 : Int32)).toNatClampNeg) (xs (nI k + (4 : Int32)).toNatClampNeg) (xs (nI k + (5 : Int32)).toNatClampNeg)) hc hm
  refine at_aload_n (pc := 340) X 1 2 dL_law_340 rfl rfl ?_
  refine at_aload_n (pc := 341) X 0 3 dL_law_341 rfl rfl ?_
  refine at_iload_n (pc := 342) X 3 0 dL_law_342 rfl rfl ?_
  refine at_iconst (pc := 343) X (1 : Int32) dL_law_343 ic_1 ?_
  refine at_iadd (pc := 344) X dL_law_344 ?_
  refine at_sld (pc := 345) X hX hbl hbL (lw_in (j := 1) hL hk6 (by decide)) dL_law_345 ?_
  refine at_aload_n (pc := 346) X 0 3 dL_law_346 rfl rfl ?_
  refine at_iload_n (pc := 347) X 3 0 dL_law_347 rfl rfl ?_
  refine at_iconst (pc := 348) X (2 : Int32) dL_law_348 ic_2 ?_
  refine at_iadd (pc := 349) X dL_law_349 ?_
  refine at_sld (pc := 350) X hX hbl hbL (lw_in (j := 2) hL hk6 (by decide)) dL_law_350 ?_
  refine at_aload_n (pc := 351) X 0 3 dL_law_351 rfl rfl ?_
  refine at_iload_n (pc := 352) X 3 0 dL_law_352 rfl rfl ?_
  refine at_iconst (pc := 353) X (3 : Int32) dL_law_353 ic_3 ?_
  refine at_iadd (pc := 354) X dL_law_354 ?_
  refine at_sld (pc := 355) X hX hbl hbL (lw_in (j := 3) hL hk6 (by decide)) dL_law_355 ?_
  refine at_aload_n (pc := 356) X 0 3 dL_law_356 rfl rfl ?_
  refine at_iload_n (pc := 357) X 3 0 dL_law_357 rfl rfl ?_
  refine at_iconst (pc := 358) X (4 : Int32) dL_law_358 ic_4 ?_
  refine at_iadd (pc := 359) X dL_law_359 ?_
  refine at_sld (pc := 360) X hX hbl hbL (lw_in (j := 4) hL hk6 (by decide)) dL_law_360 ?_
  refine at_aload_n (pc := 361) X 0 3 dL_law_361 rfl rfl ?_
  refine at_iload_n (pc := 362) X 3 0 dL_law_362 rfl rfl ?_
  refine at_iconst (pc := 363) X (5 : Int32) dL_law_363 ic_5 ?_
  refine at_iadd (pc := 364) X dL_law_364 ?_
  refine at_sld (pc := 365) X hX hbl hbL (lw_in (j := 5) hL hk6 (by decide)) dL_law_365 ?_
  refine at_calli (n := 5) (pc := 366) X 3 [.int (xs (nI k + (1 : Int32)).toNatClampNeg), .int (xs (nI k + (2 : Int32)).toNatClampNeg), .int (xs (nI k + (3 : Int32)).toNatClampNeg), .int (xs (nI k + (4 : Int32)).toNatClampNeg), .int (xs (nI k + (5 : Int32)).toNatClampNeg)] [] (mX3_copy (eL E) X.wf gx.1 e1) gL_law_X3_copy rfl ⟨rfl, rfl⟩ (by decide +kernel) ⟨Nat.le_of_ble_eq_true rfl, Nat.le_of_ble_eq_true rfl⟩ (by decide) rfl gx.1 rfl rfl (Nat.le_of_ble_eq_true rfl) dL_law_366 ?_
  refine at_aload_n (pc := 369) X 2 1 dL_law_369 rfl rfl ?_
  refine at_aload_n (pc := 370) X 0 3 dL_law_370 rfl rfl ?_
  refine at_iload_n (pc := 371) X 3 0 dL_law_371 rfl rfl ?_
  refine at_iconst (pc := 372) X (1 : Int32) dL_law_372 ic_1 ?_
  refine at_iadd (pc := 373) X dL_law_373 ?_
  refine at_sld (pc := 374) X hX hbl hbL (lw_in (j := 1) hL hk6 (by decide)) dL_law_374 ?_
  refine at_aload_n (pc := 375) X 0 3 dL_law_375 rfl rfl ?_
  refine at_iload_n (pc := 376) X 3 0 dL_law_376 rfl rfl ?_
  refine at_iconst (pc := 377) X (2 : Int32) dL_law_377 ic_2 ?_
  refine at_iadd (pc := 378) X dL_law_378 ?_
  refine at_sld (pc := 379) X hX hbl hbL (lw_in (j := 2) hL hk6 (by decide)) dL_law_379 ?_
  refine at_aload_n (pc := 380) X 0 3 dL_law_380 rfl rfl ?_
  refine at_iload_n (pc := 381) X 3 0 dL_law_381 rfl rfl ?_
  refine at_iconst (pc := 382) X (3 : Int32) dL_law_382 ic_3 ?_
  refine at_iadd (pc := 383) X dL_law_383 ?_
  refine at_sld (pc := 384) X hX hbl hbL (lw_in (j := 3) hL hk6 (by decide)) dL_law_384 ?_
  refine at_aload_n (pc := 385) X 0 3 dL_law_385 rfl rfl ?_
  refine at_iload_n (pc := 386) X 3 0 dL_law_386 rfl rfl ?_
  refine at_iconst (pc := 387) X (4 : Int32) dL_law_387 ic_4 ?_
  refine at_iadd (pc := 388) X dL_law_388 ?_
  refine at_sld (pc := 389) X hX hbl hbL (lw_in (j := 4) hL hk6 (by decide)) dL_law_389 ?_
  refine at_aload_n (pc := 390) X 0 3 dL_law_390 rfl rfl ?_
  refine at_iload_n (pc := 391) X 3 0 dL_law_391 rfl rfl ?_
  refine at_iconst (pc := 392) X (5 : Int32) dL_law_392 ic_5 ?_
  refine at_iadd (pc := 393) X dL_law_393 ?_
  refine at_sld (pc := 394) X hX hbl hbL (lw_in (j := 5) hL hk6 (by decide)) dL_law_394 ?_
  refine at_calli (n := 5) (pc := 395) X 4 [.int (xs (nI k + (1 : Int32)).toNatClampNeg), .int (xs (nI k + (2 : Int32)).toNatClampNeg), .int (xs (nI k + (3 : Int32)).toNatClampNeg), .int (xs (nI k + (4 : Int32)).toNatClampNeg), .int (xs (nI k + (5 : Int32)).toNatClampNeg)] [.int v] (mX4_copy (eL E) X.wf gm.1 e2) gL_law_X4_copy rfl ⟨rfl, rfl⟩ (by decide +kernel) ⟨Nat.le_of_ble_eq_true rfl, Nat.le_of_ble_eq_true rfl⟩ (by decide) rfl gm.1 rfl rfl (Nat.le_of_ble_eq_true rfl) dL_law_395 ?_
  refine at_icmp_eq (pc := 398) X 1261 dL_law_398 (by decide) (fun c => ?_) (fun c => absurd rfl c)
  exact hk σ2 Y' ok' c' m'
set_option maxHeartbeats 4000000 in
set_option maxRecDepth 100000 in
theorem lc_5 (X : mm_Cx E G cL_law 4 RL wsL_law room_1 ret) (gx : gX G x cd) (gm : gM G m cd) (hX : va_X b L xs (eS E) (eS E).heap) (hbl : b < (eS E).heap.size) (hbL : b ∉ mm_L G) (hL : L ≤ 3072) (hk6 : k + 6 ≤ L) (ok : okP Y) (hc : CR G x σ Y) (hm : MR G m σ Y) (hk : ∀ σ' Y', okP Y' → CR G x σ' Y' → MR G m σ' Y' → mm_At E G 4 Q σ' 1261 [(3, .int (nI k)), (2, .ref m), (1, .ref x), (0, .ref b)] []) : mm_At E G 4 Q σ 403 [(3, .int (nI k)), (2, .ref m), (1, .ref x), (0, .ref b)] [] := by
  obtain ⟨v, σ1, σ2, Y', e1, e2, ok', c', m'⟩ := Jc_use gx gm (J_mean gx gm ok (xs (nI k + (1 : Int32)).toNatClampNeg)) hc hm
  refine at_aload_n (pc := 403) X 1 2 dL_law_403 rfl rfl ?_
  refine at_aload_n (pc := 404) X 0 3 dL_law_404 rfl rfl ?_
  refine at_iload_n (pc := 405) X 3 0 dL_law_405 rfl rfl ?_
  refine at_iconst (pc := 406) X (1 : Int32) dL_law_406 ic_1 ?_
  refine at_iadd (pc := 407) X dL_law_407 ?_
  refine at_sld (pc := 408) X hX hbl hbL (lw_in (j := 1) hL hk6 (by decide)) dL_law_408 ?_
  refine at_calli (n := 1) (pc := 409) X 3 [.int (xs (nI k + (1 : Int32)).toNatClampNeg)] [] (mX3_mean (eL E) X.wf gx.1 e1) gL_law_X3_mean rfl ⟨rfl, rfl⟩ (by decide +kernel) ⟨Nat.le_of_ble_eq_true rfl, Nat.le_of_ble_eq_true rfl⟩ (by decide) rfl gx.1 rfl rfl (Nat.le_of_ble_eq_true rfl) dL_law_409 ?_
  refine at_aload_n (pc := 412) X 2 1 dL_law_412 rfl rfl ?_
  refine at_aload_n (pc := 413) X 0 3 dL_law_413 rfl rfl ?_
  refine at_iload_n (pc := 414) X 3 0 dL_law_414 rfl rfl ?_
  refine at_iconst (pc := 415) X (1 : Int32) dL_law_415 ic_1 ?_
  refine at_iadd (pc := 416) X dL_law_416 ?_
  refine at_sld (pc := 417) X hX hbl hbL (lw_in (j := 1) hL hk6 (by decide)) dL_law_417 ?_
  refine at_calli (n := 1) (pc := 418) X 4 [.int (xs (nI k + (1 : Int32)).toNatClampNeg)] [.int v] (mX4_mean (eL E) X.wf gm.1 e2) gL_law_X4_mean rfl ⟨rfl, rfl⟩ (by decide +kernel) ⟨Nat.le_of_ble_eq_true rfl, Nat.le_of_ble_eq_true rfl⟩ (by decide) rfl gm.1 rfl rfl (Nat.le_of_ble_eq_true rfl) dL_law_418 ?_
  refine at_icmp_eq (pc := 421) X 1261 dL_law_421 (by decide) (fun c => ?_) (fun c => absurd rfl c)
  exact hk σ2 Y' ok' c' m'
set_option maxHeartbeats 4000000 in
set_option maxRecDepth 100000 in
theorem lc_6 (X : mm_Cx E G cL_law 4 RL wsL_law room_1 ret) (gx : gX G x cd) (gm : gM G m cd) (hX : va_X b L xs (eS E) (eS E).heap) (hbl : b < (eS E).heap.size) (hbL : b ∉ mm_L G) (hL : L ≤ 3072) (hk6 : k + 6 ≤ L) (ok : okP Y) (hc : CR G x σ Y) (hm : MR G m σ Y) (hk : ∀ σ' Y', okP Y' → CR G x σ' Y' → MR G m σ' Y' → mm_At E G 4 Q σ' 1261 [(3, .int (nI k)), (2, .ref m), (1, .ref x), (0, .ref b)] []) : mm_At E G 4 Q σ 426 [(3, .int (nI k)), (2, .ref m), (1, .ref x), (0, .ref b)] [] := by
  obtain ⟨v, σ1, σ2, Y', e1, e2, ok', c', m'⟩ := Jc_use gx gm (J_text gx gm ok (xs (nI k + (1 : Int32)).toNatClampNeg) (xs (nI k + (2 : Int32)).toNatClampNeg)) hc hm
  refine at_aload_n (pc := 426) X 1 2 dL_law_426 rfl rfl ?_
  refine at_aload_n (pc := 427) X 0 3 dL_law_427 rfl rfl ?_
  refine at_iload_n (pc := 428) X 3 0 dL_law_428 rfl rfl ?_
  refine at_iconst (pc := 429) X (1 : Int32) dL_law_429 ic_1 ?_
  refine at_iadd (pc := 430) X dL_law_430 ?_
  refine at_sld (pc := 431) X hX hbl hbL (lw_in (j := 1) hL hk6 (by decide)) dL_law_431 ?_
  refine at_aload_n (pc := 432) X 0 3 dL_law_432 rfl rfl ?_
  refine at_iload_n (pc := 433) X 3 0 dL_law_433 rfl rfl ?_
  refine at_iconst (pc := 434) X (2 : Int32) dL_law_434 ic_2 ?_
  refine at_iadd (pc := 435) X dL_law_435 ?_
  refine at_sld (pc := 436) X hX hbl hbL (lw_in (j := 2) hL hk6 (by decide)) dL_law_436 ?_
  refine at_calli (n := 2) (pc := 437) X 3 [.int (xs (nI k + (1 : Int32)).toNatClampNeg), .int (xs (nI k + (2 : Int32)).toNatClampNeg)] [] (mX3_text (eL E) X.wf gx.1 e1) gL_law_X3_text rfl ⟨rfl, rfl⟩ (by decide +kernel) ⟨Nat.le_of_ble_eq_true rfl, Nat.le_of_ble_eq_true rfl⟩ (by decide) rfl gx.1 rfl rfl (Nat.le_of_ble_eq_true rfl) dL_law_437 ?_
  refine at_aload_n (pc := 440) X 2 1 dL_law_440 rfl rfl ?_
  refine at_aload_n (pc := 441) X 0 3 dL_law_441 rfl rfl ?_
  refine at_iload_n (pc := 442) X 3 0 dL_law_442 rfl rfl ?_
  refine at_iconst (pc := 443) X (1 : Int32) dL_law_443 ic_1 ?_
  refine at_iadd (pc := 444) X dL_law_444 ?_
  refine at_sld (pc := 445) X hX hbl hbL (lw_in (j := 1) hL hk6 (by decide)) dL_law_445 ?_
  refine at_aload_n (pc := 446) X 0 3 dL_law_446 rfl rfl ?_
  refine at_iload_n (pc := 447) X 3 0 dL_law_447 rfl rfl ?_
  refine at_iconst (pc := 448) X (2 : Int32) dL_law_448 ic_2 ?_
  refine at_iadd (pc := 449) X dL_law_449 ?_
  refine at_sld (pc := 450) X hX hbl hbL (lw_in (j := 2) hL hk6 (by decide)) dL_law_450 ?_
  refine at_calli (n := 2) (pc := 451) X 4 [.int (xs (nI k + (1 : Int32)).toNatClampNeg), .int (xs (nI k + (2 : Int32)).toNatClampNeg)] [.int v] (mX4_text (eL E) X.wf gm.1 e2) gL_law_X4_text rfl ⟨rfl, rfl⟩ (by decide +kernel) ⟨Nat.le_of_ble_eq_true rfl, Nat.le_of_ble_eq_true rfl⟩ (by decide) rfl gm.1 rfl rfl (Nat.le_of_ble_eq_true rfl) dL_law_451 ?_
  refine at_icmp_eq (pc := 454) X 1261 dL_law_454 (by decide) (fun c => ?_) (fun c => absurd rfl c)
  exact hk σ2 Y' ok' c' m'
set_option maxHeartbeats 4000000 in
set_option maxRecDepth 100000 in
theorem lc_7 (X : mm_Cx E G cL_law 4 RL wsL_law room_1 ret) (gx : gX G x cd) (gm : gM G m cd) (hX : va_X b L xs (eS E) (eS E).heap) (hbl : b < (eS E).heap.size) (hbL : b ∉ mm_L G) (hL : L ≤ 3072) (hk6 : k + 6 ≤ L) (ok : okP Y) (hc : CR G x σ Y) (hm : MR G m σ Y) (hk : ∀ σ' Y', okP Y' → CR G x σ' Y' → MR G m σ' Y' → mm_At E G 4 Q σ' 1261 [(3, .int (nI k)), (2, .ref m), (1, .ref x), (0, .ref b)] []) : mm_At E G 4 Q σ 459 [(3, .int (nI k)), (2, .ref m), (1, .ref x), (0, .ref b)] [] := by
  obtain ⟨v, σ1, σ2, Y', e1, e2, ok', c', m'⟩ := Jc_use gx gm (J_put gx gm ok (xs (nI k + (1 : Int32)).toNatClampNeg) (xs (nI k + (2 : Int32)).toNatClampNeg) (xs (nI k + (3 : Int32)).toNatClampNeg)) hc hm
  refine at_aload_n (pc := 459) X 1 2 dL_law_459 rfl rfl ?_
  refine at_aload_n (pc := 460) X 0 3 dL_law_460 rfl rfl ?_
  refine at_iload_n (pc := 461) X 3 0 dL_law_461 rfl rfl ?_
  refine at_iconst (pc := 462) X (1 : Int32) dL_law_462 ic_1 ?_
  refine at_iadd (pc := 463) X dL_law_463 ?_
  refine at_sld (pc := 464) X hX hbl hbL (lw_in (j := 1) hL hk6 (by decide)) dL_law_464 ?_
  refine at_aload_n (pc := 465) X 0 3 dL_law_465 rfl rfl ?_
  refine at_iload_n (pc := 466) X 3 0 dL_law_466 rfl rfl ?_
  refine at_iconst (pc := 467) X (2 : Int32) dL_law_467 ic_2 ?_
  refine at_iadd (pc := 468) X dL_law_468 ?_
  refine at_sld (pc := 469) X hX hbl hbL (lw_in (j := 2) hL hk6 (by decide)) dL_law_469 ?_
  refine at_aload_n (pc := 470) X 0 3 dL_law_470 rfl rfl ?_
  refine at_iload_n (pc := 471) X 3 0 dL_law_471 rfl rfl ?_
  refine at_iconst (pc := 472) X (3 : Int32) dL_law_472 ic_3 ?_
  refine at_iadd (pc := 473) X dL_law_473 ?_
  refine at_sld (pc := 474) X hX hbl hbL (lw_in (j := 3) hL hk6 (by decide)) dL_law_474 ?_
  refine at_calli (n := 3) (pc := 475) X 3 [.int (xs (nI k + (1 : Int32)).toNatClampNeg), .int (xs (nI k + (2 : Int32)).toNatClampNeg), .int (xs (nI k + (3 : Int32)).toNatClampNeg)] [] (mX3_put (eL E) X.wf gx.1 e1) gL_law_X3_put rfl ⟨rfl, rfl⟩ (by decide +kernel) ⟨Nat.le_of_ble_eq_true rfl, Nat.le_of_ble_eq_true rfl⟩ (by decide) rfl gx.1 rfl rfl (Nat.le_of_ble_eq_true rfl) dL_law_475 ?_
  refine at_aload_n (pc := 478) X 2 1 dL_law_478 rfl rfl ?_
  refine at_aload_n (pc := 479) X 0 3 dL_law_479 rfl rfl ?_
  refine at_iload_n (pc := 480) X 3 0 dL_law_480 rfl rfl ?_
  refine at_iconst (pc := 481) X (1 : Int32) dL_law_481 ic_1 ?_
  refine at_iadd (pc := 482) X dL_law_482 ?_
  refine at_sld (pc := 483) X hX hbl hbL (lw_in (j := 1) hL hk6 (by decide)) dL_law_483 ?_
  refine at_aload_n (pc := 484) X 0 3 dL_law_484 rfl rfl ?_
  refine at_iload_n (pc := 485) X 3 0 dL_law_485 rfl rfl ?_
  refine at_iconst (pc := 486) X (2 : Int32) dL_law_486 ic_2 ?_
  refine at_iadd (pc := 487) X dL_law_487 ?_
  refine at_sld (pc := 488) X hX hbl hbL (lw_in (j := 2) hL hk6 (by decide)) dL_law_488 ?_
  refine at_aload_n (pc := 489) X 0 3 dL_law_489 rfl rfl ?_
  refine at_iload_n (pc := 490) X 3 0 dL_law_490 rfl rfl ?_
  refine at_iconst (pc := 491) X (3 : Int32) dL_law_491 ic_3 ?_
  refine at_iadd (pc := 492) X dL_law_492 ?_
  refine at_sld (pc := 493) X hX hbl hbL (lw_in (j := 3) hL hk6 (by decide)) dL_law_493 ?_
  refine at_calli (n := 3) (pc := 494) X 4 [.int (xs (nI k + (1 : Int32)).toNatClampNeg), .int (xs (nI k + (2 : Int32)).toNatClampNeg), .int (xs (nI k + (3 : Int32)).toNatClampNeg)] [.int v] (mX4_put (eL E) X.wf gm.1 e2) gL_law_X4_put rfl ⟨rfl, rfl⟩ (by decide +kernel) ⟨Nat.le_of_ble_eq_true rfl, Nat.le_of_ble_eq_true rfl⟩ (by decide) rfl gm.1 rfl rfl (Nat.le_of_ble_eq_true rfl) dL_law_494 ?_
  refine at_icmp_eq (pc := 497) X 1261 dL_law_497 (by decide) (fun c => ?_) (fun c => absurd rfl c)
  exact hk σ2 Y' ok' c' m'
set_option maxHeartbeats 4000000 in
set_option maxRecDepth 100000 in
theorem lc_8 (X : mm_Cx E G cL_law 4 RL wsL_law room_1 ret) (gx : gX G x cd) (gm : gM G m cd) (hX : va_X b L xs (eS E) (eS E).heap) (hbl : b < (eS E).heap.size) (hbL : b ∉ mm_L G) (hL : L ≤ 3072) (hk6 : k + 6 ≤ L) (ok : okP Y) (hc : CR G x σ Y) (hm : MR G m σ Y) (hk : ∀ σ' Y', okP Y' → CR G x σ' Y' → MR G m σ' Y' → mm_At E G 4 Q σ' 1261 [(3, .int (nI k)), (2, .ref m), (1, .ref x), (0, .ref b)] []) : mm_At E G 4 Q σ 502 [(3, .int (nI k)), (2, .ref m), (1, .ref x), (0, .ref b)] [] := by
  obtain ⟨v, σ1, σ2, Y', e1, e2, ok', c', m'⟩ := Jc_use gx gm (J_fault gx gm ok (xs (nI k + (1 : Int32)).toNatClampNeg)) hc hm
  refine at_aload_n (pc := 502) X 1 2 dL_law_502 rfl rfl ?_
  refine at_aload_n (pc := 503) X 0 3 dL_law_503 rfl rfl ?_
  refine at_iload_n (pc := 504) X 3 0 dL_law_504 rfl rfl ?_
  refine at_iconst (pc := 505) X (1 : Int32) dL_law_505 ic_1 ?_
  refine at_iadd (pc := 506) X dL_law_506 ?_
  refine at_sld (pc := 507) X hX hbl hbL (lw_in (j := 1) hL hk6 (by decide)) dL_law_507 ?_
  refine at_calli (n := 1) (pc := 508) X 3 [.int (xs (nI k + (1 : Int32)).toNatClampNeg)] [] (mX3_fault (eL E) X.wf gx.1 e1) gL_law_X3_fault rfl ⟨rfl, rfl⟩ (by decide +kernel) ⟨Nat.le_of_ble_eq_true rfl, Nat.le_of_ble_eq_true rfl⟩ (by decide) rfl gx.1 rfl rfl (Nat.le_of_ble_eq_true rfl) dL_law_508 ?_
  refine at_aload_n (pc := 511) X 2 1 dL_law_511 rfl rfl ?_
  refine at_aload_n (pc := 512) X 0 3 dL_law_512 rfl rfl ?_
  refine at_iload_n (pc := 513) X 3 0 dL_law_513 rfl rfl ?_
  refine at_iconst (pc := 514) X (1 : Int32) dL_law_514 ic_1 ?_
  refine at_iadd (pc := 515) X dL_law_515 ?_
  refine at_sld (pc := 516) X hX hbl hbL (lw_in (j := 1) hL hk6 (by decide)) dL_law_516 ?_
  refine at_calli (n := 1) (pc := 517) X 4 [.int (xs (nI k + (1 : Int32)).toNatClampNeg)] [.int v] (mX4_fault (eL E) X.wf gm.1 e2) gL_law_X4_fault rfl ⟨rfl, rfl⟩ (by decide +kernel) ⟨Nat.le_of_ble_eq_true rfl, Nat.le_of_ble_eq_true rfl⟩ (by decide) rfl gm.1 rfl rfl (Nat.le_of_ble_eq_true rfl) dL_law_517 ?_
  refine at_icmp_eq (pc := 520) X 1261 dL_law_520 (by decide) (fun c => ?_) (fun c => absurd rfl c)
  exact hk σ2 Y' ok' c' m'
set_option maxHeartbeats 4000000 in
set_option maxRecDepth 100000 in
theorem lc_9 (X : mm_Cx E G cL_law 4 RL wsL_law room_1 ret) (gx : gX G x cd) (gm : gM G m cd) (hX : va_X b L xs (eS E) (eS E).heap) (hbl : b < (eS E).heap.size) (hbL : b ∉ mm_L G) (hL : L ≤ 3072) (hk6 : k + 6 ≤ L) (ok : okP Y) (hc : CR G x σ Y) (hm : MR G m σ Y) (hk : ∀ σ' Y', okP Y' → CR G x σ' Y' → MR G m σ' Y' → mm_At E G 4 Q σ' 1261 [(3, .int (nI k)), (2, .ref m), (1, .ref x), (0, .ref b)] []) : mm_At E G 4 Q σ 525 [(3, .int (nI k)), (2, .ref m), (1, .ref x), (0, .ref b)] [] := by
  obtain ⟨v, σ1, σ2, Y', e1, e2, ok', c', m'⟩ := Jc_use gx gm (J_air gx gm ok (xs (nI k + (1 : Int32)).toNatClampNeg)) hc hm
  refine at_aload_n (pc := 525) X 1 2 dL_law_525 rfl rfl ?_
  refine at_aload_n (pc := 526) X 0 3 dL_law_526 rfl rfl ?_
  refine at_iload_n (pc := 527) X 3 0 dL_law_527 rfl rfl ?_
  refine at_iconst (pc := 528) X (1 : Int32) dL_law_528 ic_1 ?_
  refine at_iadd (pc := 529) X dL_law_529 ?_
  refine at_sld (pc := 530) X hX hbl hbL (lw_in (j := 1) hL hk6 (by decide)) dL_law_530 ?_
  refine at_calli (n := 1) (pc := 531) X 3 [.int (xs (nI k + (1 : Int32)).toNatClampNeg)] [] (mX3_air (eL E) X.wf gx.1 e1) gL_law_X3_air rfl ⟨rfl, rfl⟩ (by decide +kernel) ⟨Nat.le_of_ble_eq_true rfl, Nat.le_of_ble_eq_true rfl⟩ (by decide) rfl gx.1 rfl rfl (Nat.le_of_ble_eq_true rfl) dL_law_531 ?_
  refine at_aload_n (pc := 534) X 2 1 dL_law_534 rfl rfl ?_
  refine at_aload_n (pc := 535) X 0 3 dL_law_535 rfl rfl ?_
  refine at_iload_n (pc := 536) X 3 0 dL_law_536 rfl rfl ?_
  refine at_iconst (pc := 537) X (1 : Int32) dL_law_537 ic_1 ?_
  refine at_iadd (pc := 538) X dL_law_538 ?_
  refine at_sld (pc := 539) X hX hbl hbL (lw_in (j := 1) hL hk6 (by decide)) dL_law_539 ?_
  refine at_calli (n := 1) (pc := 540) X 4 [.int (xs (nI k + (1 : Int32)).toNatClampNeg)] [.int v] (mX4_air (eL E) X.wf gm.1 e2) gL_law_X4_air rfl ⟨rfl, rfl⟩ (by decide +kernel) ⟨Nat.le_of_ble_eq_true rfl, Nat.le_of_ble_eq_true rfl⟩ (by decide) rfl gm.1 rfl rfl (Nat.le_of_ble_eq_true rfl) dL_law_540 ?_
  refine at_icmp_eq (pc := 543) X 1261 dL_law_543 (by decide) (fun c => ?_) (fun c => absurd rfl c)
  exact hk σ2 Y' ok' c' m'
end LC
