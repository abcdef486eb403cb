section LAW3
variable {L : Nat} {xs : Nat → Int32} {QQ : QE} {cells slots i : Nat} {hi : HI}
theorem case_born (hL : L ≤ 3072) (h6 : i + 6 ≤ L) (hc : cells + 1 ≤ 601024 ∧ slots + 6 ≤ 7293034) (r : LwR hi) (tl : Tail L xs QQ cells slots i) : ZG kLaw (eeW L xs) QQ cells slots 192 (lvL i) [] hi := by
  refine zg_aload_n (pc := 192) (x := 1) dL_law_192 rfl 3 rfl ?_
  refine zg_rd (pc := 193) (j := 1) hL h6 (by decide) dL_law_193 dL_law_194 dL_law_196 dL_law_197 dL_law_198 ?_
  refine zg_rd (pc := 199) (j := 2) hL h6 (by decide) dL_law_199 dL_law_200 dL_law_202 dL_law_203 dL_law_204 ?_
  refine zg_rd (pc := 205) (j := 3) hL h6 (by decide) dL_law_205 dL_law_206 dL_law_208 dL_law_209 dL_law_210 ?_
  refine zg_callV (pc := 211) (kc := kX7_born) (n := 3) (pl := 0) (ci := 6) (As := [AI (X5 xs i 1), AI (X5 xs i 2), AI (X5 xs i 3)]) (stk := []) ct_X7_born (good_x (gdV (k := k0Law) rfl rfl (iw5 _ (List.mem_of_getElem? (i := 20) rfl)) (iw5 _ (List.mem_of_getElem? (i := 21) rfl)) (iw5 _ (List.mem_of_getElem? (i := 22) rfl)) (iw1 _ (List.mem_of_getElem? (i := 2) rfl)) (iw5 _ (List.mem_of_getElem? (i := 23) rfl)))) rfl ⟨rfl, rfl⟩ (by decide +kernel) ⟨Nat.le_of_ble_eq_true rfl, Nat.le_of_ble_eq_true rfl⟩ ⟨by show cells + 0 ≤ 601024; omega, by show slots + 0 ≤ 7293034; omega⟩ (by decide) rfl rfl dL_law_211 rfl rfl (Nat.le_of_ble_eq_true rfl) ?_
  refine ⟨_, _, _, rfl, ⟨ciof r.1.1, toInt_inR _, toInt_inR _, toInt_inR _⟩, fun v h1 hv => ?_⟩
  show ZG kLaw (eeW L xs) QQ cells slots 214 (lvL i) [AI v] h1
  have mx : MX h1 := r.mx hv.1 (by decide)
  refine zg_aload_n (pc := 214) (x := 40) dL_law_214 rfl 2 rfl ?_
  refine zg_rd (pc := 215) (j := 1) hL h6 (by decide) dL_law_215 dL_law_216 dL_law_218 dL_law_219 dL_law_220 ?_
  refine zg_rd (pc := 221) (j := 2) hL h6 (by decide) dL_law_221 dL_law_222 dL_law_224 dL_law_225 dL_law_226 ?_
  refine zg_rd (pc := 227) (j := 3) hL h6 (by decide) dL_law_227 dL_law_228 dL_law_230 dL_law_231 dL_law_232 ?_
  refine zg_callV (pc := 233) (kc := kX8_born) (n := 3) (pl := 39) (ci := 7) (As := [AI (X5 xs i 1), AI (X5 xs i 2), AI (X5 xs i 3)]) (stk := [AI v]) ct_X8_born (good_x (gdV (k := k0Law) rfl rfl (iw8 _ (List.mem_of_getElem? (i := 18) rfl)) (iw8 _ (List.mem_of_getElem? (i := 19) rfl)) (iw8 _ (List.mem_of_getElem? (i := 20) rfl)) (iw1 _ (List.mem_of_getElem? (i := 5) rfl)) (iw8 _ (List.mem_of_getElem? (i := 21) rfl)))) rfl ⟨rfl, rfl⟩ (by decide +kernel) ⟨Nat.le_of_ble_eq_true rfl, Nat.le_of_ble_eq_true rfl⟩ ⟨by show cells + 0 ≤ 601024; omega, by show slots + 0 ≤ 7293034; omega⟩ (by decide) rfl rfl dL_law_233 rfl rfl (Nat.le_of_ble_eq_true rfl) ?_
  refine ⟨_, _, _, rfl, ⟨miof mx, toInt_inR _, toInt_inR _, toInt_inR _⟩, fun u h2 hu => ?_⟩
  show ZG kLaw (eeW L xs) QQ cells slots 236 (lvL i) [AI u, AI v] h2
  obtain ⟨e, r2⟩ := act_born r hv.1 hv.2 hu.1 hu.2
  refine zg_same (pc := 236) (tgt := 1485) dL_law_236 (by decide) e ?_
  exact tl h2 cells slots r2 (Nat.le_succ _) (Nat.le_add_right _ _)
theorem case_span (hL : L ≤ 3072) (h6 : i + 6 ≤ L) (hc : cells + 1 ≤ 601024 ∧ slots + 6 ≤ 7293034) (r : LwR hi) (tl : Tail L xs QQ cells slots i) : ZG kLaw (eeW L xs) QQ cells slots 241 (lvL i) [] hi := by
  refine zg_aload_n (pc := 241) (x := 1) dL_law_241 rfl 3 rfl ?_
  refine zg_rd (pc := 242) (j := 1) hL h6 (by decide) dL_law_242 dL_law_243 dL_law_245 dL_law_246 dL_law_247 ?_
  refine zg_rd (pc := 248) (j := 2) hL h6 (by decide) dL_law_248 dL_law_249 dL_law_251 dL_law_252 dL_law_253 ?_
  refine zg_rd (pc := 254) (j := 3) hL h6 (by decide) dL_law_254 dL_law_255 dL_law_257 dL_law_258 dL_law_259 ?_
  refine zg_rd (pc := 260) (j := 4) hL h6 (by decide) dL_law_260 dL_law_261 dL_law_263 dL_law_264 dL_law_265 ?_
  refine zg_callV (pc := 266) (kc := kX7_span) (n := 4) (pl := 0) (ci := 6) (As := [AI (X5 xs i 1), AI (X5 xs i 2), AI (X5 xs i 3), AI (X5 xs i 4)]) (stk := []) ct_X7_span (good_x (gdV (k := k0Law) rfl rfl (iw11 _ (List.mem_of_getElem? (i := 9) rfl)) (iw6 _ (List.mem_of_getElem? (i := 1) rfl)) (iw6 _ (List.mem_of_getElem? (i := 2) rfl)) (iw1 _ (List.mem_of_getElem? (i := 2) rfl)) (iw6 _ (List.mem_of_getElem? (i := 3) rfl)))) rfl ⟨rfl, rfl⟩ (by decide +kernel) ⟨Nat.le_of_ble_eq_true rfl, Nat.le_of_ble_eq_true rfl⟩ ⟨by show cells + 0 ≤ 601024; omega, by show slots + 0 ≤ 7293034; omega⟩ (by decide) rfl rfl dL_law_266 rfl rfl (Nat.le_of_ble_eq_true rfl) ?_
  refine ⟨_, _, _, _, rfl, ⟨ciof r.1.1, toInt_inR _, toInt_inR _, toInt_inR _, toInt_inR _⟩, fun v h1 hv => ?_⟩
  show ZG kLaw (eeW L xs) QQ cells slots 269 (lvL i) [AI v] h1
  have mx : MX h1 := r.mx hv.1 (by decide)
  refine zg_aload_n (pc := 269) (x := 40) dL_law_269 rfl 2 rfl ?_
  refine zg_rd (pc := 270) (j := 1) hL h6 (by decide) dL_law_270 dL_law_271 dL_law_273 dL_law_274 dL_law_275 ?_
  refine zg_rd (pc := 276) (j := 2) hL h6 (by decide) dL_law_276 dL_law_277 dL_law_279 dL_law_280 dL_law_281 ?_
  refine zg_rd (pc := 282) (j := 3) hL h6 (by decide) dL_law_282 dL_law_283 dL_law_285 dL_law_286 dL_law_287 ?_
  refine zg_rd (pc := 288) (j := 4) hL h6 (by decide) dL_law_288 dL_law_289 dL_law_291 dL_law_292 dL_law_293 ?_
  refine zg_callV (pc := 294) (kc := kX8_span) (n := 4) (pl := 39) (ci := 7) (As := [AI (X5 xs i 1), AI (X5 xs i 2), AI (X5 xs i 3), AI (X5 xs i 4)]) (stk := [AI v]) ct_X8_span (good_x (gdV (k := k0Law) rfl rfl (iw11 _ (List.mem_of_getElem? (i := 10) rfl)) (iw11 _ (List.mem_of_getElem? (i := 11) rfl)) (iw11 _ (List.mem_of_getElem? (i := 12) rfl)) (iw1 _ (List.mem_of_getElem? (i := 5) rfl)) (iw11 _ (List.mem_of_getElem? (i := 13) rfl)))) rfl ⟨rfl, rfl⟩ (by decide +kernel) ⟨Nat.le_of_ble_eq_true rfl, Nat.le_of_ble_eq_true rfl⟩ ⟨by show cells + 0 ≤ 601024; omega, by show slots + 0 ≤ 7293034; omega⟩ (by decide) rfl rfl dL_law_294 rfl rfl (Nat.le_of_ble_eq_true rfl) ?_
  refine ⟨_, _, _, _, rfl, ⟨miof mx, toInt_inR _, toInt_inR _, toInt_inR _, toInt_inR _⟩, fun u h2 hu => ?_⟩
  show ZG kLaw (eeW L xs) QQ cells slots 297 (lvL i) [AI u, AI v] h2
  obtain ⟨e, r2⟩ := act_span r hv.1 hv.2 hu.1 hu.2
  refine zg_same (pc := 297) (tgt := 1485) dL_law_297 (by decide) e ?_
  exact tl h2 cells slots r2 (Nat.le_succ _) (Nat.le_add_right _ _)
theorem case_died (hL : L ≤ 3072) (h6 : i + 6 ≤ L) (hc : cells + 1 ≤ 601024 ∧ slots + 6 ≤ 7293034) (r : LwR hi) (tl : Tail L xs QQ cells slots i) : ZG kLaw (eeW L xs) QQ cells slots 302 (lvL i) [] hi := by
  refine zg_aload_n (pc := 302) (x := 1) dL_law_302 rfl 3 rfl ?_
  refine zg_rd (pc := 303) (j := 1) hL h6 (by decide) dL_law_303 dL_law_304 dL_law_306 dL_law_307 dL_law_308 ?_
  refine zg_rd (pc := 309) (j := 2) hL h6 (by decide) dL_law_309 dL_law_310 dL_law_312 dL_law_313 dL_law_314 ?_
  refine zg_callV (pc := 315) (kc := kX7_died) (n := 2) (pl := 0) (ci := 6) (As := [AI (X5 xs i 1), AI (X5 xs i 2)]) (stk := []) ct_X7_died (good_x (gdV (k := k0Law) rfl rfl (iw11 _ (List.mem_of_getElem? (i := 14) rfl)) (iw11 _ (List.mem_of_getElem? (i := 15) rfl)) (iw11 _ (List.mem_of_getElem? (i := 16) rfl)) (iw1 _ (List.mem_of_getElem? (i := 2) rfl)) (iw11 _ (List.mem_of_getElem? (i := 17) rfl)))) rfl ⟨rfl, rfl⟩ (by decide +kernel) ⟨Nat.le_of_ble_eq_true rfl, Nat.le_of_ble_eq_true rfl⟩ ⟨by show cells + 0 ≤ 601024; omega, by show slots + 0 ≤ 7293034; omega⟩ (by decide) rfl rfl dL_law_315 rfl rfl (Nat.le_of_ble_eq_true rfl) ?_
  refine ⟨_, _, rfl, ⟨ciof r.1.1, toInt_inR _, toInt_inR _⟩, fun v h1 hv => ?_⟩
  show ZG kLaw (eeW L xs) QQ cells slots 318 (lvL i) [AI v] h1
  have mx : MX h1 := r.mx hv.1 (by decide)
  refine zg_aload_n (pc := 318) (x := 40) dL_law_318 rfl 2 rfl ?_
  refine zg_rd (pc := 319) (j := 1) hL h6 (by decide) dL_law_319 dL_law_320 dL_law_322 dL_law_323 dL_law_324 ?_
  refine zg_rd (pc := 325) (j := 2) hL h6 (by decide) dL_law_325 dL_law_326 dL_law_328 dL_law_329 dL_law_330 ?_
  refine zg_callV (pc := 331) (kc := kX8_died) (n := 2) (pl := 39) (ci := 7) (As := [AI (X5 xs i 1), AI (X5 xs i 2)]) (stk := [AI v]) ct_X8_died (good_x (gdV (k := k0Law) rfl rfl (iw12 _ (List.mem_of_getElem? (i := 16) rfl)) (iw12 _ (List.mem_of_getElem? (i := 17) rfl)) (iw12 _ (List.mem_of_getElem? (i := 18) rfl)) (iw1 _ (List.mem_of_getElem? (i := 5) rfl)) (iw12 _ (List.mem_of_getElem? (i := 19) rfl)))) rfl ⟨rfl, rfl⟩ (by decide +kernel) ⟨Nat.le_of_ble_eq_true rfl, Nat.le_of_ble_eq_true rfl⟩ ⟨by show cells + 0 ≤ 601024; omega, by show slots + 0 ≤ 7293034; omega⟩ (by decide) rfl rfl dL_law_331 rfl rfl (Nat.le_of_ble_eq_true rfl) ?_
  refine ⟨_, _, rfl, ⟨miof mx, toInt_inR _, toInt_inR _⟩, fun u h2 hu => ?_⟩
  show ZG kLaw (eeW L xs) QQ cells slots 334 (lvL i) [AI u, AI v] h2
  obtain ⟨e, r2⟩ := act_died r hv.1 hv.2 hu.1 hu.2
  refine zg_same (pc := 334) (tgt := 1485) dL_law_334 (by decide) e ?_
  exact tl h2 cells slots r2 (Nat.le_succ _) (Nat.le_add_right _ _)
theorem case_unborn (hL : L ≤ 3072) (h6 : i + 6 ≤ L) (hc : cells + 1 ≤ 601024 ∧ slots + 6 ≤ 7293034) (r : LwR hi) (tl : Tail L xs QQ cells slots i) : ZG kLaw (eeW L xs) QQ cells slots 339 (lvL i) [] hi := by
  refine zg_aload_n (pc := 339) (x := 1) dL_law_339 rfl 3 rfl ?_
  refine zg_rd (pc := 340) (j := 1) hL h6 (by decide) dL_law_340 dL_law_341 dL_law_343 dL_law_344 dL_law_345 ?_
  refine zg_rd (pc := 346) (j := 2) hL h6 (by decide) dL_law_346 dL_law_347 dL_law_349 dL_law_350 dL_law_351 ?_
  refine zg_callV (pc := 352) (kc := kX7_unborn) (n := 2) (pl := 0) (ci := 6) (As := [AI (X5 xs i 1), AI (X5 xs i 2)]) (stk := []) ct_X7_unborn (good_x (gdV (k := k0Law) rfl rfl (iw13 _ (List.mem_of_getElem? (i := 8) rfl)) (iw13 _ (List.mem_of_getElem? (i := 9) rfl)) (iw13 _ (List.mem_of_getElem? (i := 10) rfl)) (iw1 _ (List.mem_of_getElem? (i := 2) rfl)) (iw13 _ (List.mem_of_getElem? (i := 11) rfl)))) rfl ⟨rfl, rfl⟩ (by decide +kernel) ⟨Nat.le_of_ble_eq_true rfl, Nat.le_of_ble_eq_true rfl⟩ ⟨by show cells + 0 ≤ 601024; omega, by show slots + 0 ≤ 7293034; omega⟩ (by decide) rfl rfl dL_law_352 rfl rfl (Nat.le_of_ble_eq_true rfl) ?_
  refine ⟨_, _, rfl, ⟨ciof r.1.1, toInt_inR _, toInt_inR _⟩, fun v h1 hv => ?_⟩
  show ZG kLaw (eeW L xs) QQ cells slots 355 (lvL i) [AI v] h1
  have mx : MX h1 := r.mx hv.1 (by decide)
  refine zg_aload_n (pc := 355) (x := 40) dL_law_355 rfl 2 rfl ?_
  refine zg_rd (pc := 356) (j := 1) hL h6 (by decide) dL_law_356 dL_law_357 dL_law_359 dL_law_360 dL_law_361 ?_
  refine zg_rd (pc := 362) (j := 2) hL h6 (by decide) dL_law_362 dL_law_363 dL_law_365 dL_law_366 dL_law_367 ?_
  refine zg_callV (pc := 368) (kc := kX8_unborn) (n := 2) (pl := 39) (ci := 7) (As := [AI (X5 xs i 1), AI (X5 xs i 2)]) (stk := [AI v]) ct_X8_unborn (good_x (gdV (k := k0Law) rfl rfl (iw13 _ (List.mem_of_getElem? (i := 12) rfl)) (iw13 _ (List.mem_of_getElem? (i := 13) rfl)) (iw13 _ (List.mem_of_getElem? (i := 14) rfl)) (iw1 _ (List.mem_of_getElem? (i := 5) rfl)) (iw13 _ (List.mem_of_getElem? (i := 15) rfl)))) rfl ⟨rfl, rfl⟩ (by decide +kernel) ⟨Nat.le_of_ble_eq_true rfl, Nat.le_of_ble_eq_true rfl⟩ ⟨by show cells + 0 ≤ 601024; omega, by show slots + 0 ≤ 7293034; omega⟩ (by decide) rfl rfl dL_law_368 rfl rfl (Nat.le_of_ble_eq_true rfl) ?_
  refine ⟨_, _, rfl, ⟨miof mx, toInt_inR _, toInt_inR _⟩, fun u h2 hu => ?_⟩
  show ZG kLaw (eeW L xs) QQ cells slots 371 (lvL i) [AI u, AI v] h2
  obtain ⟨e, r2⟩ := act_unborn r hv.1 hv.2 hu.1 hu.2
  refine zg_same (pc := 371) (tgt := 1485) dL_law_371 (by decide) e ?_
  exact tl h2 cells slots r2 (Nat.le_succ _) (Nat.le_add_right _ _)
theorem case_revived (hL : L ≤ 3072) (h6 : i + 6 ≤ L) (hc : cells + 1 ≤ 601024 ∧ slots + 6 ≤ 7293034) (r : LwR hi) (tl : Tail L xs QQ cells slots i) : ZG kLaw (eeW L xs) QQ cells slots 376 (lvL i) [] hi := by
  refine zg_aload_n (pc := 376) (x := 1) dL_law_376 rfl 3 rfl ?_
  refine zg_rd (pc := 377) (j := 1) hL h6 (by decide) dL_law_377 dL_law_378 dL_law_380 dL_law_381 dL_law_382 ?_
  refine zg_rd (pc := 383) (j := 2) hL h6 (by decide) dL_law_383 dL_law_384 dL_law_386 dL_law_387 dL_law_388 ?_
  refine zg_callV (pc := 389) (kc := kX7_revived) (n := 2) (pl := 0) (ci := 6) (As := [AI (X5 xs i 1), AI (X5 xs i 2)]) (stk := []) ct_X7_revived (good_x (gdV (k := k0Law) rfl rfl (iw13 _ (List.mem_of_getElem? (i := 16) rfl)) (iw13 _ (List.mem_of_getElem? (i := 17) rfl)) (iw13 _ (List.mem_of_getElem? (i := 18) rfl)) (iw1 _ (List.mem_of_getElem? (i := 2) rfl)) (iw13 _ (List.mem_of_getElem? (i := 19) rfl)))) rfl ⟨rfl, rfl⟩ (by decide +kernel) ⟨Nat.le_of_ble_eq_true rfl, Nat.le_of_ble_eq_true rfl⟩ ⟨by show cells + 0 ≤ 601024; omega, by show slots + 0 ≤ 7293034; omega⟩ (by decide) rfl rfl dL_law_389 rfl rfl (Nat.le_of_ble_eq_true rfl) ?_
  refine ⟨_, _, rfl, ⟨ciof r.1.1, toInt_inR _, toInt_inR _⟩, fun v h1 hv => ?_⟩
  show ZG kLaw (eeW L xs) QQ cells slots 392 (lvL i) [AI v] h1
  have mx : MX h1 := r.mx hv.1 (by decide)
  refine zg_aload_n (pc := 392) (x := 40) dL_law_392 rfl 2 rfl ?_
  refine zg_rd (pc := 393) (j := 1) hL h6 (by decide) dL_law_393 dL_law_394 dL_law_396 dL_law_397 dL_law_398 ?_
  refine zg_rd (pc := 399) (j := 2) hL h6 (by decide) dL_law_399 dL_law_400 dL_law_402 dL_law_403 dL_law_404 ?_
  refine zg_callV (pc := 405) (kc := kX8_revived) (n := 2) (pl := 39) (ci := 7) (As := [AI (X5 xs i 1), AI (X5 xs i 2)]) (stk := [AI v]) ct_X8_revived (good_x (gdV (k := k0Law) rfl rfl (iw14 _ (List.mem_of_getElem? (i := 0) rfl)) (iw14 _ (List.mem_of_getElem? (i := 1) rfl)) (iw14 _ (List.mem_of_getElem? (i := 2) rfl)) (iw1 _ (List.mem_of_getElem? (i := 5) rfl)) (iw14 _ (List.mem_of_getElem? (i := 3) rfl)))) rfl ⟨rfl, rfl⟩ (by decide +kernel) ⟨Nat.le_of_ble_eq_true rfl, Nat.le_of_ble_eq_true rfl⟩ ⟨by show cells + 0 ≤ 601024; omega, by show slots + 0 ≤ 7293034; omega⟩ (by decide) rfl rfl dL_law_405 rfl rfl (Nat.le_of_ble_eq_true rfl) ?_
  refine ⟨_, _, rfl, ⟨miof mx, toInt_inR _, toInt_inR _⟩, fun u h2 hu => ?_⟩
  show ZG kLaw (eeW L xs) QQ cells slots 408 (lvL i) [AI u, AI v] h2
  obtain ⟨e, r2⟩ := act_revived r hv.1 hv.2 hu.1 hu.2
  refine zg_same (pc := 408) (tgt := 1485) dL_law_408 (by decide) e ?_
  exact tl h2 cells slots r2 (Nat.le_succ _) (Nat.le_add_right _ _)
theorem case_shifted (hL : L ≤ 3072) (h6 : i + 6 ≤ L) (hc : cells + 1 ≤ 601024 ∧ slots + 6 ≤ 7293034) (r : LwR hi) (tl : Tail L xs QQ cells slots i) : ZG kLaw (eeW L xs) QQ cells slots 413 (lvL i) [] hi := by
  refine zg_aload_n (pc := 413) (x := 1) dL_law_413 rfl 3 rfl ?_
  refine zg_rd (pc := 414) (j := 1) hL h6 (by decide) dL_law_414 dL_law_415 dL_law_417 dL_law_418 dL_law_419 ?_
  refine zg_rd (pc := 420) (j := 2) hL h6 (by decide) dL_law_420 dL_law_421 dL_law_423 dL_law_424 dL_law_425 ?_
  refine zg_rd (pc := 426) (j := 3) hL h6 (by decide) dL_law_426 dL_law_427 dL_law_429 dL_law_430 dL_law_431 ?_
  refine zg_callV (pc := 432) (kc := kX7_shifted) (n := 3) (pl := 0) (ci := 6) (As := [AI (X5 xs i 1), AI (X5 xs i 2), AI (X5 xs i 3)]) (stk := []) ct_X7_shifted (good_x (gdV (k := k0Law) rfl rfl (iw14 _ (List.mem_of_getElem? (i := 4) rfl)) (iw14 _ (List.mem_of_getElem? (i := 5) rfl)) (iw14 _ (List.mem_of_getElem? (i := 6) rfl)) (iw1 _ (List.mem_of_getElem? (i := 2) rfl)) (iw14 _ (List.mem_of_getElem? (i := 7) rfl)))) rfl ⟨rfl, rfl⟩ (by decide +kernel) ⟨Nat.le_of_ble_eq_true rfl, Nat.le_of_ble_eq_true rfl⟩ ⟨by show cells + 0 ≤ 601024; omega, by show slots + 0 ≤ 7293034; omega⟩ (by decide) rfl rfl dL_law_432 rfl rfl (Nat.le_of_ble_eq_true rfl) ?_
  refine ⟨_, _, _, rfl, ⟨ciof r.1.1, toInt_inR _, toInt_inR _, toInt_inR _⟩, fun v h1 hv => ?_⟩
  show ZG kLaw (eeW L xs) QQ cells slots 435 (lvL i) [AI v] h1
  have mx : MX h1 := r.mx hv.1 (by decide)
  refine zg_aload_n (pc := 435) (x := 40) dL_law_435 rfl 2 rfl ?_
  refine zg_rd (pc := 436) (j := 1) hL h6 (by decide) dL_law_436 dL_law_437 dL_law_439 dL_law_440 dL_law_441 ?_
  refine zg_rd (pc := 442) (j := 2) hL h6 (by decide) dL_law_442 dL_law_443 dL_law_445 dL_law_446 dL_law_447 ?_
  refine zg_rd (pc := 448) (j := 3) hL h6 (by decide) dL_law_448 dL_law_449 dL_law_451 dL_law_452 dL_law_453 ?_
  refine zg_callV (pc := 454) (kc := kX8_shifted) (n := 3) (pl := 39) (ci := 7) (As := [AI (X5 xs i 1), AI (X5 xs i 2), AI (X5 xs i 3)]) (stk := [AI v]) ct_X8_shifted (good_x (gdV (k := k0Law) rfl rfl (iw14 _ (List.mem_of_getElem? (i := 9) rfl)) (iw14 _ (List.mem_of_getElem? (i := 10) rfl)) (iw14 _ (List.mem_of_getElem? (i := 11) rfl)) (iw1 _ (List.mem_of_getElem? (i := 5) rfl)) (iw14 _ (List.mem_of_getElem? (i := 12) rfl)))) rfl ⟨rfl, rfl⟩ (by decide +kernel) ⟨Nat.le_of_ble_eq_true rfl, Nat.le_of_ble_eq_true rfl⟩ ⟨by show cells + 0 ≤ 601024; omega, by show slots + 0 ≤ 7293034; omega⟩ (by decide) rfl rfl dL_law_454 rfl rfl (Nat.le_of_ble_eq_true rfl) ?_
  refine ⟨_, _, _, rfl, ⟨miof mx, toInt_inR _, toInt_inR _, toInt_inR _⟩, fun u h2 hu => ?_⟩
  show ZG kLaw (eeW L xs) QQ cells slots 457 (lvL i) [AI u, AI v] h2
  obtain ⟨e, r2⟩ := act_shifted r hv.1 hv.2 hu.1 hu.2
  refine zg_same (pc := 457) (tgt := 1485) dL_law_457 (by decide) e ?_
  exact tl h2 cells slots r2 (Nat.le_succ _) (Nat.le_add_right _ _)
theorem case_worthed (hL : L ≤ 3072) (h6 : i + 6 ≤ L) (hc : cells + 1 ≤ 601024 ∧ slots + 6 ≤ 7293034) (r : LwR hi) (tl : Tail L xs QQ cells slots i) : ZG kLaw (eeW L xs) QQ cells slots 462 (lvL i) [] hi := by
  refine zg_aload_n (pc := 462) (x := 1) dL_law_462 rfl 3 rfl ?_
  refine zg_rd (pc := 463) (j := 1) hL h6 (by decide) dL_law_463 dL_law_464 dL_law_466 dL_law_467 dL_law_468 ?_
  refine zg_rd (pc := 469) (j := 2) hL h6 (by decide) dL_law_469 dL_law_470 dL_law_472 dL_law_473 dL_law_474 ?_
  refine zg_rd (pc := 475) (j := 3) hL h6 (by decide) dL_law_475 dL_law_476 dL_law_478 dL_law_479 dL_law_480 ?_
  refine zg_callV (pc := 481) (kc := kX7_worthed) (n := 3) (pl := 0) (ci := 6) (As := [AI (X5 xs i 1), AI (X5 xs i 2), AI (X5 xs i 3)]) (stk := []) ct_X7_worthed (good_x (gdV (k := k0Law) rfl rfl (iw14 _ (List.mem_of_getElem? (i := 14) rfl)) (iw14 _ (List.mem_of_getElem? (i := 15) rfl)) (iw14 _ (List.mem_of_getElem? (i := 16) rfl)) (iw1 _ (List.mem_of_getElem? (i := 2) rfl)) (iw14 _ (List.mem_of_getElem? (i := 17) rfl)))) rfl ⟨rfl, rfl⟩ (by decide +kernel) ⟨Nat.le_of_ble_eq_true rfl, Nat.le_of_ble_eq_true rfl⟩ ⟨by show cells + 0 ≤ 601024; omega, by show slots + 0 ≤ 7293034; omega⟩ (by decide) rfl rfl dL_law_481 rfl rfl (Nat.le_of_ble_eq_true rfl) ?_
  refine ⟨_, _, _, rfl, ⟨ciof r.1.1, toInt_inR _, toInt_inR _, toInt_inR _⟩, fun v h1 hv => ?_⟩
  show ZG kLaw (eeW L xs) QQ cells slots 484 (lvL i) [AI v] h1
  have mx : MX h1 := r.mx hv.1 (by decide)
  refine zg_aload_n (pc := 484) (x := 40) dL_law_484 rfl 2 rfl ?_
  refine zg_rd (pc := 485) (j := 1) hL h6 (by decide) dL_law_485 dL_law_486 dL_law_488 dL_law_489 dL_law_490 ?_
  refine zg_rd (pc := 491) (j := 2) hL h6 (by decide) dL_law_491 dL_law_492 dL_law_494 dL_law_495 dL_law_496 ?_
  refine zg_rd (pc := 497) (j := 3) hL h6 (by decide) dL_law_497 dL_law_498 dL_law_500 dL_law_501 dL_law_502 ?_
  refine zg_callV (pc := 503) (kc := kX8_worthed) (n := 3) (pl := 39) (ci := 7) (As := [AI (X5 xs i 1), AI (X5 xs i 2), AI (X5 xs i 3)]) (stk := [AI v]) ct_X8_worthed (good_x (gdV (k := k0Law) rfl rfl (iw14 _ (List.mem_of_getElem? (i := 22) rfl)) (iw14 _ (List.mem_of_getElem? (i := 23) rfl)) (iw15 _ (List.mem_of_getElem? (i := 0) rfl)) (iw1 _ (List.mem_of_getElem? (i := 5) rfl)) (iw15 _ (List.mem_of_getElem? (i := 1) rfl)))) rfl ⟨rfl, rfl⟩ (by decide +kernel) ⟨Nat.le_of_ble_eq_true rfl, Nat.le_of_ble_eq_true rfl⟩ ⟨by show cells + 0 ≤ 601024; omega, by show slots + 0 ≤ 7293034; omega⟩ (by decide) rfl rfl dL_law_503 rfl rfl (Nat.le_of_ble_eq_true rfl) ?_
  refine ⟨_, _, _, rfl, ⟨miof mx, toInt_inR _, toInt_inR _, toInt_inR _⟩, fun u h2 hu => ?_⟩
  show ZG kLaw (eeW L xs) QQ cells slots 506 (lvL i) [AI u, AI v] h2
  obtain ⟨e, r2⟩ := act_worthed r hv.1 hv.2 hu.1 hu.2
  refine zg_same (pc := 506) (tgt := 1485) dL_law_506 (by decide) e ?_
  exact tl h2 cells slots r2 (Nat.le_succ _) (Nat.le_add_right _ _)
theorem case_lock (hL : L ≤ 3072) (h6 : i + 6 ≤ L) (hc : cells + 1 ≤ 601024 ∧ slots + 6 ≤ 7293034) (r : LwR hi) (tl : Tail L xs QQ cells slots i) : ZG kLaw (eeW L xs) QQ cells slots 511 (lvL i) [] hi := by
  refine zg_aload_n (pc := 511) (x := 1) dL_law_511 rfl 3 rfl ?_
  refine zg_rd (pc := 512) (j := 1) hL h6 (by decide) dL_law_512 dL_law_513 dL_law_515 dL_law_516 dL_law_517 ?_
  refine zg_callV (pc := 518) (kc := kX7_lock) (n := 1) (pl := 0) (ci := 6) (As := [AI (X5 xs i 1)]) (stk := []) ct_X7_lock (good_x (gdV (k := k0Law) rfl rfl (iw15 _ (List.mem_of_getElem? (i := 2) rfl)) (iw15 _ (List.mem_of_getElem? (i := 3) rfl)) (iw15 _ (List.mem_of_getElem? (i := 4) rfl)) (iw1 _ (List.mem_of_getElem? (i := 2) rfl)) (iw15 _ (List.mem_of_getElem? (i := 5) rfl)))) rfl ⟨rfl, rfl⟩ (by decide +kernel) ⟨Nat.le_of_ble_eq_true rfl, Nat.le_of_ble_eq_true rfl⟩ ⟨by show cells + 0 ≤ 601024; omega, by show slots + 0 ≤ 7293034; omega⟩ (by decide) rfl rfl dL_law_518 rfl rfl (Nat.le_of_ble_eq_true rfl) ?_
  refine ⟨_, rfl, toInt_inR _, fun v h1 hv => ?_⟩
  show ZG kLaw (eeW L xs) QQ cells slots 521 (lvL i) [AI v] h1
  have mx : MX h1 := r.mx hv.1 (by decide)
  refine zg_aload_n (pc := 521) (x := 40) dL_law_521 rfl 2 rfl ?_
  refine zg_rd (pc := 522) (j := 1) hL h6 (by decide) dL_law_522 dL_law_523 dL_law_525 dL_law_526 dL_law_527 ?_
  refine zg_callV (pc := 528) (kc := kX8_lock) (n := 1) (pl := 39) (ci := 7) (As := [AI (X5 xs i 1)]) (stk := [AI v]) ct_X8_lock (good_x (gdV (k := k0Law) rfl rfl (iw15 _ (List.mem_of_getElem? (i := 10) rfl)) (iw15 _ (List.mem_of_getElem? (i := 11) rfl)) (iw15 _ (List.mem_of_getElem? (i := 12) rfl)) (iw1 _ (List.mem_of_getElem? (i := 5) rfl)) (iw15 _ (List.mem_of_getElem? (i := 13) rfl)))) rfl ⟨rfl, rfl⟩ (by decide +kernel) ⟨Nat.le_of_ble_eq_true rfl, Nat.le_of_ble_eq_true rfl⟩ ⟨by show cells + 0 ≤ 601024; omega, by show slots + 0 ≤ 7293034; omega⟩ (by decide) rfl rfl dL_law_528 rfl rfl (Nat.le_of_ble_eq_true rfl) ?_
  refine ⟨_, rfl, ⟨miof mx, toInt_inR _⟩, fun u h2 hu => ?_⟩
  show ZG kLaw (eeW L xs) QQ cells slots 531 (lvL i) [AI u, AI v] h2
  obtain ⟨e, r2⟩ := act_lock r hv.1 hv.2 hu.2 hu.1
  refine zg_same (pc := 531) (tgt := 1485) dL_law_531 (by decide) e ?_
  exact tl h2 cells slots r2 (Nat.le_succ _) (Nat.le_add_right _ _)
theorem case_undo (hL : L ≤ 3072) (h6 : i + 6 ≤ L) (hc : cells + 1 ≤ 601024 ∧ slots + 6 ≤ 7293034) (r : LwR hi) (tl : Tail L xs QQ cells slots i) : ZG kLaw (eeW L xs) QQ cells slots 536 (lvL i) [] hi := by
  refine zg_aload_n (pc := 536) (x := 1) dL_law_536 rfl 3 rfl ?_
  refine zg_callV (pc := 537) (kc := kX7_undo) (n := 0) (pl := 0) (ci := 6) (As := []) (stk := []) ct_X7_undo (good_x (gdV (k := k0Law) rfl rfl (iw15 _ (List.mem_of_getElem? (i := 14) rfl)) (iw15 _ (List.mem_of_getElem? (i := 15) rfl)) (iw15 _ (List.mem_of_getElem? (i := 16) rfl)) (iw1 _ (List.mem_of_getElem? (i := 2) rfl)) (iw15 _ (List.mem_of_getElem? (i := 17) rfl)))) rfl ⟨rfl, rfl⟩ (by decide +kernel) ⟨Nat.le_of_ble_eq_true rfl, Nat.le_of_ble_eq_true rfl⟩ ⟨by show cells + 0 ≤ 601024; omega, by show slots + 0 ≤ 7293034; omega⟩ (by decide) rfl rfl dL_law_537 rfl rfl (Nat.le_of_ble_eq_true rfl) ?_
  refine ⟨rfl, r.1.1.2.1, fun v h1 hv => ?_⟩
  show ZG kLaw (eeW L xs) QQ cells slots 540 (lvL i) [AI v] h1
  have mx : MX h1 := r.mx hv.1 (by decide)
  refine zg_aload_n (pc := 540) (x := 40) dL_law_540 rfl 2 rfl ?_
  refine zg_callV (pc := 541) (kc := kX8_undo) (n := 0) (pl := 39) (ci := 7) (As := []) (stk := [AI v]) ct_X8_undo (good_x (gdV (k := k0Law) rfl rfl (iw16 _ (List.mem_of_getElem? (i := 6) rfl)) (iw16 _ (List.mem_of_getElem? (i := 7) rfl)) (iw16 _ (List.mem_of_getElem? (i := 8) rfl)) (iw1 _ (List.mem_of_getElem? (i := 5) rfl)) (iw16 _ (List.mem_of_getElem? (i := 9) rfl)))) rfl ⟨rfl, rfl⟩ (by decide +kernel) ⟨Nat.le_of_ble_eq_true rfl, Nat.le_of_ble_eq_true rfl⟩ ⟨by show cells + 0 ≤ 601024; omega, by show slots + 0 ≤ 7293034; omega⟩ (by decide) rfl rfl dL_law_541 rfl rfl (Nat.le_of_ble_eq_true rfl) ?_
  refine ⟨rfl, miof mx, fun u h2 hu => ?_⟩
  show ZG kLaw (eeW L xs) QQ cells slots 544 (lvL i) [AI u, AI v] h2
  obtain ⟨e, r2⟩ := act_undo r hv.1 hv.2 ⟨hu.2, hu.1 42 (by decide)⟩ hu.1
  refine zg_same (pc := 544) (tgt := 1485) dL_law_544 (by decide) e ?_
  exact tl h2 cells slots r2 (Nat.le_succ _) (Nat.le_add_right _ _)
theorem case_keep (hL : L ≤ 3072) (h6 : i + 6 ≤ L) (hc : cells + 1 ≤ 601024 ∧ slots + 6 ≤ 7293034) (r : LwR hi) (tl : Tail L xs QQ cells slots i) : ZG kLaw (eeW L xs) QQ cells slots 549 (lvL i) [] hi := by
  have main : ∀ b : Int, (b = 0 ∨ b = 1) → (b = 0 ↔ X5 xs i 2 = 0) → ZG kLaw (eeW L xs) QQ cells slots 570 (lvL i) [AI b, AI (X5 xs i 1), AR 1] hi := fun b hb hb2 => by
    refine zg_callV (pc := 570) (kc := kX7_keep) (n := 2) (pl := 0) (ci := 6) (As := [AI (X5 xs i 1), AI b]) (stk := []) ct_X7_keep (good_x (gdV (k := k0Law) rfl rfl (iw16 _ (List.mem_of_getElem? (i := 10) rfl)) (iw16 _ (List.mem_of_getElem? (i := 11) rfl)) (iw16 _ (List.mem_of_getElem? (i := 12) rfl)) (iw1 _ (List.mem_of_getElem? (i := 2) rfl)) (iw16 _ (List.mem_of_getElem? (i := 13) rfl)))) rfl ⟨rfl, rfl⟩ (by decide +kernel) ⟨Nat.le_of_ble_eq_true rfl, Nat.le_of_ble_eq_true rfl⟩ ⟨by show cells + 0 ≤ 601024; omega, by show slots + 0 ≤ 7293034; omega⟩ (by decide) rfl rfl dL_law_570 rfl rfl (Nat.le_of_ble_eq_true rfl) ?_
    refine ⟨_, _, rfl, ⟨toInt_inR _, hb⟩, fun v h1 hv => ?_⟩
    show ZG kLaw (eeW L xs) QQ cells slots 573 (lvL i) [AI v] h1
    have two : ZG kLaw (eeW L xs) QQ cells slots 594 (lvL i) [AI b, AI (X5 xs i 1), AR 40, AI v] h1 := by
      refine zg_callV (pc := 594) (kc := kX8_keep) (n := 2) (pl := 39) (ci := 7) (As := [AI (X5 xs i 1), AI b]) (stk := [AI v]) ct_X8_keep (good_x (gdV (k := k0Law) rfl rfl (iw16 _ (List.mem_of_getElem? (i := 20) rfl)) (iw16 _ (List.mem_of_getElem? (i := 21) rfl)) (iw16 _ (List.mem_of_getElem? (i := 22) rfl)) (iw1 _ (List.mem_of_getElem? (i := 5) rfl)) (iw16 _ (List.mem_of_getElem? (i := 23) rfl)))) rfl ⟨rfl, rfl⟩ (by decide +kernel) ⟨Nat.le_of_ble_eq_true rfl, Nat.le_of_ble_eq_true rfl⟩ ⟨by show cells + 0 ≤ 601024; omega, by show slots + 0 ≤ 7293034; omega⟩ (by decide) rfl rfl dL_law_594 rfl rfl (Nat.le_of_ble_eq_true rfl) ?_
      refine ⟨_, _, rfl, ⟨toInt_inR _, hb⟩, fun u h2 hu => ?_⟩
      show ZG kLaw (eeW L xs) QQ cells slots 597 (lvL i) [AI u, AI v] h2
      obtain ⟨e, r2⟩ := act_keep r hv.1 hv.2 hu.1 hu.2
      refine zg_same (pc := 597) (tgt := 1485) dL_law_597 (by decide) e ?_
      exact tl h2 cells slots r2 (Nat.le_succ _) (Nat.le_add_right _ _)
    refine zg_aload_n (pc := 573) (x := 40) dL_law_573 rfl 2 rfl ?_
    refine zg_rd (pc := 574) (j := 1) hL h6 (by decide) dL_law_574 dL_law_575 dL_law_577 dL_law_578 dL_law_579 ?_
    refine zg_rd (pc := 580) (j := 2) hL h6 (by decide) dL_law_580 dL_law_581 dL_law_583 dL_law_584 dL_law_585 ?_
    refine zg_if_eq (pc := 586) (tgt := 593) dL_law_586 (by decide) (toInt_inR _) (fun q => ?_) (fun q => ?_)
    · refine zg_iconst (pc := 593) (v := 0) dL_law_593 rfl ?_
      have e : b = 0 := hb2.mpr q
      rw [e] at two; exact two
    · refine zg_iconst (pc := 589) (v := 1) dL_law_589 rfl ?_
      refine zg_goto (pc := 590) (tgt := 594) dL_law_590 (by decide) ?_
      have e : b = 1 := hb.resolve_left (fun z => q (hb2.mp z))
      rw [e] at two; exact two
  refine zg_aload_n (pc := 549) (x := 1) dL_law_549 rfl 3 rfl ?_
  refine zg_rd (pc := 550) (j := 1) hL h6 (by decide) dL_law_550 dL_law_551 dL_law_553 dL_law_554 dL_law_555 ?_
  refine zg_rd (pc := 556) (j := 2) hL h6 (by decide) dL_law_556 dL_law_557 dL_law_559 dL_law_560 dL_law_561 ?_
  refine zg_if_eq (pc := 562) (tgt := 569) dL_law_562 (by decide) (toInt_inR _) (fun q => ?_) (fun q => ?_)
  · refine zg_iconst (pc := 569) (v := 0) dL_law_569 rfl ?_
    exact main 0 (Or.inl rfl) ⟨fun _ => q, fun _ => rfl⟩
  · refine zg_iconst (pc := 565) (v := 1) dL_law_565 rfl ?_
    refine zg_goto (pc := 566) (tgt := 570) dL_law_566 (by decide) ?_
    exact main 1 (Or.inr rfl) ⟨fun z => absurd z (by decide), fun z => absurd z q⟩
theorem case_feed (hL : L ≤ 3072) (h6 : i + 6 ≤ L) (hc : cells + 1 ≤ 601024 ∧ slots + 6 ≤ 7293034) (r : LwR hi) (tl : Tail L xs QQ cells slots i) : ZG kLaw (eeW L xs) QQ cells slots 602 (lvL i) [] hi := by
  refine zg_aload_n (pc := 602) (x := 1) dL_law_602 rfl 3 rfl ?_
  refine zg_rd (pc := 603) (j := 1) hL h6 (by decide) dL_law_603 dL_law_604 dL_law_606 dL_law_607 dL_law_608 ?_
  refine zg_rd (pc := 609) (j := 2) hL h6 (by decide) dL_law_609 dL_law_610 dL_law_612 dL_law_613 dL_law_614 ?_
  refine zg_rd (pc := 615) (j := 3) hL h6 (by decide) dL_law_615 dL_law_616 dL_law_618 dL_law_619 dL_law_620 ?_
  refine zg_rd (pc := 621) (j := 4) hL h6 (by decide) dL_law_621 dL_law_622 dL_law_624 dL_law_625 dL_law_626 ?_
  refine zg_rd (pc := 627) (j := 5) hL h6 (by decide) dL_law_627 dL_law_628 dL_law_630 dL_law_631 dL_law_632 ?_
  refine zg_callV (pc := 633) (kc := kX7_feed) (n := 5) (pl := 0) (ci := 6) (As := [AI (X5 xs i 1), AI (X5 xs i 2), AI (X5 xs i 3), AI (X5 xs i 4), AI (X5 xs i 5)]) (stk := []) ct_X7_feed (good_x (gdV (k := k0Law) rfl rfl (iw17 _ (List.mem_of_getElem? (i := 0) rfl)) (iw17 _ (List.mem_of_getElem? (i := 1) rfl)) (iw17 _ (List.mem_of_getElem? (i := 2) rfl)) (iw1 _ (List.mem_of_getElem? (i := 2) rfl)) (iw17 _ (List.mem_of_getElem? (i := 3) rfl)))) rfl ⟨rfl, rfl⟩ (by decide +kernel) ⟨Nat.le_of_ble_eq_true rfl, Nat.le_of_ble_eq_true rfl⟩ ⟨by show cells + 0 ≤ 601024; omega, by show slots + 0 ≤ 7293034; omega⟩ (by decide) rfl rfl dL_law_633 rfl rfl (Nat.le_of_ble_eq_true rfl) ?_
  refine ⟨_, _, _, _, _, rfl, ⟨r.2.2.1.1.1, toInt_inR _, toInt_inR _, toInt_inR _, toInt_inR _, toInt_inR _⟩, fun v h1 hv => ?_⟩
  show ZG kLaw (eeW L xs) QQ cells slots 636 (lvL i) [AI v] h1
  have mx : MX h1 := r.mx hv.1 (by decide)
  refine zg_aload_n (pc := 636) (x := 40) dL_law_636 rfl 2 rfl ?_
  refine zg_rd (pc := 637) (j := 1) hL h6 (by decide) dL_law_637 dL_law_638 dL_law_640 dL_law_641 dL_law_642 ?_
  refine zg_rd (pc := 643) (j := 2) hL h6 (by decide) dL_law_643 dL_law_644 dL_law_646 dL_law_647 dL_law_648 ?_
  refine zg_rd (pc := 649) (j := 3) hL h6 (by decide) dL_law_649 dL_law_650 dL_law_652 dL_law_653 dL_law_654 ?_
  refine zg_rd (pc := 655) (j := 4) hL h6 (by decide) dL_law_655 dL_law_656 dL_law_658 dL_law_659 dL_law_660 ?_
  refine zg_rd (pc := 661) (j := 5) hL h6 (by decide) dL_law_661 dL_law_662 dL_law_664 dL_law_665 dL_law_666 ?_
  refine zg_callV (pc := 667) (kc := kX8_feed) (n := 5) (pl := 39) (ci := 7) (As := [AI (X5 xs i 1), AI (X5 xs i 2), AI (X5 xs i 3), AI (X5 xs i 4), AI (X5 xs i 5)]) (stk := [AI v]) ct_X8_feed (good_x (gdV (k := k0Law) rfl rfl (iw17 _ (List.mem_of_getElem? (i := 16) rfl)) (iw17 _ (List.mem_of_getElem? (i := 17) rfl)) (iw17 _ (List.mem_of_getElem? (i := 18) rfl)) (iw1 _ (List.mem_of_getElem? (i := 5) rfl)) (iw17 _ (List.mem_of_getElem? (i := 19) rfl)))) rfl ⟨rfl, rfl⟩ (by decide +kernel) ⟨Nat.le_of_ble_eq_true rfl, Nat.le_of_ble_eq_true rfl⟩ ⟨by show cells + 0 ≤ 601024; omega, by show slots + 0 ≤ 7293034; omega⟩ (by decide) rfl rfl dL_law_667 rfl rfl (Nat.le_of_ble_eq_true rfl) ?_
  refine ⟨_, _, _, _, _, rfl, ⟨r.l8 (hv.1 39 (by decide)), toInt_inR _, toInt_inR _, toInt_inR _, toInt_inR _, toInt_inR _⟩, fun u h2 hu => ?_⟩
  show ZG kLaw (eeW L xs) QQ cells slots 670 (lvL i) [AI u, AI v] h2
  obtain ⟨e, r2⟩ := act_feed r hv.1 hv.2 hu.1 hu.2
  refine zg_same (pc := 670) (tgt := 1485) dL_law_670 (by decide) e ?_
  exact tl h2 cells slots r2 (Nat.le_succ _) (Nat.le_add_right _ _)
theorem case_text (hL : L ≤ 3072) (h6 : i + 6 ≤ L) (hc : cells + 1 ≤ 601024 ∧ slots + 6 ≤ 7293034) (r : LwR hi) (tl : Tail L xs QQ cells slots i) : ZG kLaw (eeW L xs) QQ cells slots 675 (lvL i) [] hi := by
  refine zg_aload_n (pc := 675) (x := 1) dL_law_675 rfl 3 rfl ?_
  refine zg_rd (pc := 676) (j := 1) hL h6 (by decide) dL_law_676 dL_law_677 dL_law_679 dL_law_680 dL_law_681 ?_
  refine zg_callV (pc := 682) (kc := kX7_text) (n := 1) (pl := 0) (ci := 6) (As := [AI (X5 xs i 1)]) (stk := []) ct_X7_text (good_x (gdV (k := k0Law) rfl rfl (iw18 _ (List.mem_of_getElem? (i := 1) rfl)) (iw18 _ (List.mem_of_getElem? (i := 2) rfl)) (iw18 _ (List.mem_of_getElem? (i := 3) rfl)) (iw1 _ (List.mem_of_getElem? (i := 2) rfl)) (iw18 _ (List.mem_of_getElem? (i := 4) rfl)))) rfl ⟨rfl, rfl⟩ (by decide +kernel) ⟨Nat.le_of_ble_eq_true rfl, Nat.le_of_ble_eq_true rfl⟩ ⟨by show cells + 0 ≤ 601024; omega, by show slots + 0 ≤ 7293034; omega⟩ (by decide) rfl rfl dL_law_682 rfl rfl (Nat.le_of_ble_eq_true rfl) ?_
  refine ⟨_, rfl, ⟨r.1.1, r.2.2.1.1.1, toInt_inR _⟩, fun v h1 hv => ?_⟩
  show ZG kLaw (eeW L xs) QQ cells slots 685 (lvL i) [AI v] h1
  obtain ⟨S, P, V, st, mm, hTC, fin⟩ := act_text r hv.1 hv.2
  have mx : MX h1 := r.mx hv.1 (by decide)
  refine zg_aload_n (pc := 685) (x := 40) dL_law_685 rfl 2 rfl ?_
  refine zg_rd (pc := 686) (j := 1) hL h6 (by decide) dL_law_686 dL_law_687 dL_law_689 dL_law_690 dL_law_691 ?_
  refine zg_callV (pc := 692) (kc := kX8_text) (n := 1) (pl := 39) (ci := 7) (As := [AI (X5 xs i 1)]) (stk := [AI v]) ct_X8_text (good_x (gdV (k := k0Law) rfl rfl (iw26 _ (List.mem_of_getElem? (i := 21) rfl)) (iw26 _ (List.mem_of_getElem? (i := 22) rfl)) (iw26 _ (List.mem_of_getElem? (i := 23) rfl)) (iw1 _ (List.mem_of_getElem? (i := 5) rfl)) (iw27 _ (List.mem_of_getElem? (i := 0) rfl)))) rfl ⟨rfl, rfl⟩ (by decide +kernel) ⟨Nat.le_of_ble_eq_true rfl, Nat.le_of_ble_eq_true rfl⟩ ⟨by show cells + 0 ≤ 601024; omega, by show slots + 0 ≤ 7293034; omega⟩ (by decide) rfl rfl dL_law_692 rfl rfl (Nat.le_of_ble_eq_true rfl) ?_
  refine ⟨_, S, P, V, st, mm, rfl, ⟨mx, r.l8 (hv.1 39 (by decide)), toInt_inR _, hTC⟩, fun u h2 hu => ?_⟩
  show ZG kLaw (eeW L xs) QQ cells slots 695 (lvL i) [AI u, AI v] h2
  obtain ⟨e, r2⟩ := fin h2 u hu.1 hu.2.1 hu.2.2
  refine zg_same (pc := 695) (tgt := 1485) dL_law_695 (by decide) e ?_
  exact tl h2 cells slots r2 (Nat.le_succ _) (Nat.le_add_right _ _)
end LAW3
