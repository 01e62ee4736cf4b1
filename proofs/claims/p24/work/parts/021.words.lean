set_option maxRecDepth 100000 in
theorem q_300 : (.instanceMethod yX3_priceBy) ∈ GW := gw_t (List.mem_of_getElem? (i := 300) (by decide +kernel)) rfl
set_option maxRecDepth 100000 in
theorem q_301 : (.selects RX3 yX3_priceBy yX3_priceBy) ∈ GW := gw_t (List.mem_of_getElem? (i := 301) (by decide +kernel)) rfl
set_option maxRecDepth 100000 in
theorem q_302 : (.code yX3_priceBy cX3_priceBy 7 (some .int)) ∈ GW := gw_t (List.mem_of_getElem? (i := 302) (by decide +kernel)) rfl
set_option maxRecDepth 100000 in
theorem q_304 : (.static yX5_bitsOf) ∈ GW := gw_t (List.mem_of_getElem? (i := 304) (by decide +kernel)) rfl
set_option maxRecDepth 100000 in
theorem q_305 : (.code yX5_bitsOf cX5_bitsOf 2 (some .int)) ∈ GW := gw_t (List.mem_of_getElem? (i := 305) (by decide +kernel)) rfl
set_option maxRecDepth 100000 in
theorem q_306 : (.methodLink RX3 72 yX3_rowsMet) ∈ GW := gw_t (List.mem_of_getElem? (i := 306) (by decide +kernel)) rfl
set_option maxRecDepth 100000 in
theorem q_307 : (.instanceMethod yX3_rowsMet) ∈ GW := gw_t (List.mem_of_getElem? (i := 307) (by decide +kernel)) rfl
set_option maxRecDepth 100000 in
theorem q_308 : (.selects RX3 yX3_rowsMet yX3_rowsMet) ∈ GW := gw_t (List.mem_of_getElem? (i := 308) (by decide +kernel)) rfl
set_option maxRecDepth 100000 in
theorem q_309 : (.code yX3_rowsMet cX3_rowsMet 5 (some .int)) ∈ GW := gw_t (List.mem_of_getElem? (i := 309) (by decide +kernel)) rfl
set_option maxRecDepth 100000 in
theorem q_311 : (.static yX5_quotient) ∈ GW := gw_t (List.mem_of_getElem? (i := 311) (by decide +kernel)) rfl
set_option maxRecDepth 100000 in
theorem q_312 : (.code yX5_quotient cX5_quotient 2 (some .int)) ∈ GW := gw_t (List.mem_of_getElem? (i := 312) (by decide +kernel)) rfl
set_option maxRecDepth 100000 in
theorem q_313 : (.methodLink RX3 77 yJ9_min_7cf53) ∈ GW := gw_t (List.mem_of_getElem? (i := 313) (by decide +kernel)) rfl
set_option maxRecDepth 100000 in
theorem q_314 : (.constant RX3 76 (1000000 : Int32)) ∈ GW := gw_t (List.mem_of_getElem? (i := 314) (by decide +kernel)) rfl
set_option maxRecDepth 100000 in
theorem q_315 : (.methodLink RX3 136 yX3_isTooDear) ∈ GW := gw_t (List.mem_of_getElem? (i := 315) (by decide +kernel)) rfl
set_option maxRecDepth 100000 in
theorem q_316 : (.instanceMethod yX3_isTooDear) ∈ GW := gw_t (List.mem_of_getElem? (i := 316) (by decide +kernel)) rfl
set_option maxRecDepth 100000 in
theorem q_317 : (.selects RX3 yX3_isTooDear yX3_isTooDear) ∈ GW := gw_t (List.mem_of_getElem? (i := 317) (by decide +kernel)) rfl
set_option maxRecDepth 100000 in
theorem q_318 : (.code yX3_isTooDear cX3_isTooDear 3 (some .boolean)) ∈ GW := gw_t (List.mem_of_getElem? (i := 318) (by decide +kernel)) rfl
set_option maxRecDepth 100000 in
theorem q_319 : (.methodLink RX3 122 yX3_answerByLooking) ∈ GW := gw_t (List.mem_of_getElem? (i := 319) (by decide +kernel)) rfl
set_option maxRecDepth 100000 in
theorem q_320 : (.instanceMethod yX3_answerByLooking) ∈ GW := gw_t (List.mem_of_getElem? (i := 320) (by decide +kernel)) rfl
set_option maxRecDepth 100000 in
theorem q_321 : (.selects RX3 yX3_answerByLooking yX3_answerByLooking) ∈ GW := gw_t (List.mem_of_getElem? (i := 321) (by decide +kernel)) rfl
set_option maxRecDepth 100000 in
theorem q_322 : (.code yX3_answerByLooking cX3_answerByLooking 5 (some .int)) ∈ GW := gw_t (List.mem_of_getElem? (i := 322) (by decide +kernel)) rfl
set_option maxRecDepth 100000 in
theorem q_323 : (.methodLink RX3 140 yX3_cheapestWay) ∈ GW := gw_t (List.mem_of_getElem? (i := 323) (by decide +kernel)) rfl
set_option maxRecDepth 100000 in
theorem q_324 : (.instanceMethod yX3_cheapestWay) ∈ GW := gw_t (List.mem_of_getElem? (i := 324) (by decide +kernel)) rfl
set_option maxRecDepth 100000 in
theorem q_325 : (.selects RX3 yX3_cheapestWay yX3_cheapestWay) ∈ GW := gw_t (List.mem_of_getElem? (i := 325) (by decide +kernel)) rfl
set_option maxRecDepth 100000 in
theorem q_326 : (.code yX3_cheapestWay cX3_cheapestWay 7 (some .int)) ∈ GW := gw_t (List.mem_of_getElem? (i := 326) (by decide +kernel)) rfl
set_option maxRecDepth 100000 in
theorem q_327 : (.methodLink RX3 143 yX3_makeRoomFor) ∈ GW := gw_t (List.mem_of_getElem? (i := 327) (by decide +kernel)) rfl
set_option maxRecDepth 100000 in
theorem q_328 : (.instanceMethod yX3_makeRoomFor) ∈ GW := gw_t (List.mem_of_getElem? (i := 328) (by decide +kernel)) rfl
set_option maxRecDepth 100000 in
theorem q_329 : (.selects RX3 yX3_makeRoomFor yX3_makeRoomFor) ∈ GW := gw_t (List.mem_of_getElem? (i := 329) (by decide +kernel)) rfl
set_option maxRecDepth 100000 in
theorem q_330 : (.code yX3_makeRoomFor cX3_makeRoomFor 2 none) ∈ GW := gw_t (List.mem_of_getElem? (i := 330) (by decide +kernel)) rfl
set_option maxRecDepth 100000 in
theorem q_331 : (.methodLink RX3 167 yX3_lacksRoomFor) ∈ GW := gw_t (List.mem_of_getElem? (i := 331) (by decide +kernel)) rfl
set_option maxRecDepth 100000 in
theorem q_332 : (.instanceMethod yX3_lacksRoomFor) ∈ GW := gw_t (List.mem_of_getElem? (i := 332) (by decide +kernel)) rfl
set_option maxRecDepth 100000 in
theorem q_333 : (.selects RX3 yX3_lacksRoomFor yX3_lacksRoomFor) ∈ GW := gw_t (List.mem_of_getElem? (i := 333) (by decide +kernel)) rfl
set_option maxRecDepth 100000 in
theorem q_334 : (.code yX3_lacksRoomFor cX3_lacksRoomFor 2 (some .boolean)) ∈ GW := gw_t (List.mem_of_getElem? (i := 334) (by decide +kernel)) rfl
set_option maxRecDepth 100000 in
theorem q_335 : (.methodLink RX3 164 yX3_keptPlans) ∈ GW := gw_t (List.mem_of_getElem? (i := 335) (by decide +kernel)) rfl
set_option maxRecDepth 100000 in
theorem q_336 : (.instanceMethod yX3_keptPlans) ∈ GW := gw_t (List.mem_of_getElem? (i := 336) (by decide +kernel)) rfl
set_option maxRecDepth 100000 in
theorem q_337 : (.selects RX3 yX3_keptPlans yX3_keptPlans) ∈ GW := gw_t (List.mem_of_getElem? (i := 337) (by decide +kernel)) rfl
set_option maxRecDepth 100000 in
theorem q_338 : (.code yX3_keptPlans cX3_keptPlans 3 (some .int)) ∈ GW := gw_t (List.mem_of_getElem? (i := 338) (by decide +kernel)) rfl
set_option maxRecDepth 100000 in
theorem q_339 : (.methodLink RX3 173 yX3_crowdOutDownTo) ∈ GW := gw_t (List.mem_of_getElem? (i := 339) (by decide +kernel)) rfl
set_option maxRecDepth 100000 in
theorem q_340 : (.instanceMethod yX3_crowdOutDownTo) ∈ GW := gw_t (List.mem_of_getElem? (i := 340) (by decide +kernel)) rfl
set_option maxRecDepth 100000 in
theorem q_341 : (.selects RX3 yX3_crowdOutDownTo yX3_crowdOutDownTo) ∈ GW := gw_t (List.mem_of_getElem? (i := 341) (by decide +kernel)) rfl
set_option maxRecDepth 100000 in
theorem q_342 : (.code yX3_crowdOutDownTo cX3_crowdOutDownTo 5 none) ∈ GW := gw_t (List.mem_of_getElem? (i := 342) (by decide +kernel)) rfl
set_option maxRecDepth 100000 in
theorem q_343 : (.methodLink RX3 170 yX3_oldestUnpinned) ∈ GW := gw_t (List.mem_of_getElem? (i := 343) (by decide +kernel)) rfl
set_option maxRecDepth 100000 in
theorem q_344 : (.instanceMethod yX3_oldestUnpinned) ∈ GW := gw_t (List.mem_of_getElem? (i := 344) (by decide +kernel)) rfl
set_option maxRecDepth 100000 in
theorem q_345 : (.selects RX3 yX3_oldestUnpinned yX3_oldestUnpinned) ∈ GW := gw_t (List.mem_of_getElem? (i := 345) (by decide +kernel)) rfl
set_option maxRecDepth 100000 in
theorem q_346 : (.code yX3_oldestUnpinned cX3_oldestUnpinned 6 (some .int)) ∈ GW := gw_t (List.mem_of_getElem? (i := 346) (by decide +kernel)) rfl
set_option maxRecDepth 100000 in
theorem q_347 : (.methodLink RX3 147 yX3_couldKeep) ∈ GW := gw_t (List.mem_of_getElem? (i := 347) (by decide +kernel)) rfl
set_option maxRecDepth 100000 in
theorem q_348 : (.instanceMethod yX3_couldKeep) ∈ GW := gw_t (List.mem_of_getElem? (i := 348) (by decide +kernel)) rfl
set_option maxRecDepth 100000 in
theorem q_349 : (.selects RX3 yX3_couldKeep yX3_couldKeep) ∈ GW := gw_t (List.mem_of_getElem? (i := 349) (by decide +kernel)) rfl
set_option maxRecDepth 100000 in
theorem q_350 : (.code yX3_couldKeep cX3_couldKeep 2 (some .boolean)) ∈ GW := gw_t (List.mem_of_getElem? (i := 350) (by decide +kernel)) rfl
set_option maxRecDepth 100000 in
theorem q_351 : (.methodLink RX3 160 yX3_pinnedPlans) ∈ GW := gw_t (List.mem_of_getElem? (i := 351) (by decide +kernel)) rfl
set_option maxRecDepth 100000 in
theorem q_352 : (.instanceMethod yX3_pinnedPlans) ∈ GW := gw_t (List.mem_of_getElem? (i := 352) (by decide +kernel)) rfl
set_option maxRecDepth 100000 in
theorem q_353 : (.selects RX3 yX3_pinnedPlans yX3_pinnedPlans) ∈ GW := gw_t (List.mem_of_getElem? (i := 353) (by decide +kernel)) rfl
set_option maxRecDepth 100000 in
theorem q_354 : (.code yX3_pinnedPlans cX3_pinnedPlans 3 (some .int)) ∈ GW := gw_t (List.mem_of_getElem? (i := 354) (by decide +kernel)) rfl
set_option maxRecDepth 100000 in
theorem q_355 : (.methodLink RX3 150 yX3_place) ∈ GW := gw_t (List.mem_of_getElem? (i := 355) (by decide +kernel)) rfl
set_option maxRecDepth 100000 in
theorem q_356 : (.instanceMethod yX3_place) ∈ GW := gw_t (List.mem_of_getElem? (i := 356) (by decide +kernel)) rfl
set_option maxRecDepth 100000 in
theorem q_357 : (.selects RX3 yX3_place yX3_place) ∈ GW := gw_t (List.mem_of_getElem? (i := 357) (by decide +kernel)) rfl
set_option maxRecDepth 100000 in
theorem q_358 : (.code yX3_place cX3_place 7 none) ∈ GW := gw_t (List.mem_of_getElem? (i := 358) (by decide +kernel)) rfl
set_option maxRecDepth 100000 in
theorem q_359 : (.methodLink RL 67 yX5_askAll) ∈ GW := gw_t (List.mem_of_getElem? (i := 359) (by decide +kernel)) rfl
set_option maxRecDepth 100000 in
theorem q_360 : (.instanceMethod yX5_askAll) ∈ GW := gw_t (List.mem_of_getElem? (i := 360) (by decide +kernel)) rfl
set_option maxRecDepth 100000 in
theorem q_361 : (.selects RX5 yX5_askAll yX5_askAll) ∈ GW := gw_t (List.mem_of_getElem? (i := 361) (by decide +kernel)) rfl
set_option maxRecDepth 100000 in
theorem q_362 : (.code yX5_askAll cX5_askAll 5 (some .int)) ∈ GW := gw_t (List.mem_of_getElem? (i := 362) (by decide +kernel)) rfl
set_option maxRecDepth 100000 in
theorem q_363 : (.methodLink RX5 73 yX2_read) ∈ GW := gw_t (List.mem_of_getElem? (i := 363) (by decide +kernel)) rfl
set_option maxRecDepth 100000 in
theorem q_364 : (.instanceMethod yX2_read) ∈ GW := gw_t (List.mem_of_getElem? (i := 364) (by decide +kernel)) rfl
set_option maxRecDepth 100000 in
theorem q_365 : (.selects RX2 yX2_read yX2_read) ∈ GW := gw_t (List.mem_of_getElem? (i := 365) (by decide +kernel)) rfl
set_option maxRecDepth 100000 in
theorem q_366 : (.code yX2_read cX2_read 1 (some .int)) ∈ GW := gw_t (List.mem_of_getElem? (i := 366) (by decide +kernel)) rfl
set_option maxRecDepth 100000 in
theorem q_367 : (.methodLink RX2 32 yX2_readLine) ∈ GW := gw_t (List.mem_of_getElem? (i := 367) (by decide +kernel)) rfl
set_option maxRecDepth 100000 in
theorem q_368 : (.instanceMethod yX2_readLine) ∈ GW := gw_t (List.mem_of_getElem? (i := 368) (by decide +kernel)) rfl
set_option maxRecDepth 100000 in
theorem q_369 : (.selects RX2 yX2_readLine yX2_readLine) ∈ GW := gw_t (List.mem_of_getElem? (i := 369) (by decide +kernel)) rfl
set_option maxRecDepth 100000 in
theorem q_370 : (.code yX2_readLine cX2_readLine 5 (some .boolean)) ∈ GW := gw_t (List.mem_of_getElem? (i := 370) (by decide +kernel)) rfl
set_option maxRecDepth 100000 in
theorem q_371 : (.methodLink RX2 45 yX2_readWord) ∈ GW := gw_t (List.mem_of_getElem? (i := 371) (by decide +kernel)) rfl
set_option maxRecDepth 100000 in
theorem q_372 : (.instanceMethod yX2_readWord) ∈ GW := gw_t (List.mem_of_getElem? (i := 372) (by decide +kernel)) rfl
set_option maxRecDepth 100000 in
theorem q_373 : (.selects RX2 yX2_readWord yX2_readWord) ∈ GW := gw_t (List.mem_of_getElem? (i := 373) (by decide +kernel)) rfl
set_option maxRecDepth 100000 in
theorem q_374 : (.code yX2_readWord cX2_readWord 1 (some .int)) ∈ GW := gw_t (List.mem_of_getElem? (i := 374) (by decide +kernel)) rfl
set_option maxRecDepth 100000 in
theorem q_375 : (.methodLink RX2 53 yX2_sign) ∈ GW := gw_t (List.mem_of_getElem? (i := 375) (by decide +kernel)) rfl
set_option maxRecDepth 100000 in
theorem q_376 : (.instanceMethod yX2_sign) ∈ GW := gw_t (List.mem_of_getElem? (i := 376) (by decide +kernel)) rfl
set_option maxRecDepth 100000 in
theorem q_377 : (.selects RX2 yX2_sign yX2_sign) ∈ GW := gw_t (List.mem_of_getElem? (i := 377) (by decide +kernel)) rfl
set_option maxRecDepth 100000 in
theorem q_378 : (.code yX2_sign cX2_sign 1 (some .int)) ∈ GW := gw_t (List.mem_of_getElem? (i := 378) (by decide +kernel)) rfl
set_option maxRecDepth 100000 in
theorem q_379 : (.methodLink RX2 56 yX2_readKeyOrKeys) ∈ GW := gw_t (List.mem_of_getElem? (i := 379) (by decide +kernel)) rfl
set_option maxRecDepth 100000 in
theorem q_380 : (.instanceMethod yX2_readKeyOrKeys) ∈ GW := gw_t (List.mem_of_getElem? (i := 380) (by decide +kernel)) rfl
set_option maxRecDepth 100000 in
theorem q_381 : (.selects RX2 yX2_readKeyOrKeys yX2_readKeyOrKeys) ∈ GW := gw_t (List.mem_of_getElem? (i := 381) (by decide +kernel)) rfl
set_option maxRecDepth 100000 in
theorem q_382 : (.code yX2_readKeyOrKeys cX2_readKeyOrKeys 1 (some .int)) ∈ GW := gw_t (List.mem_of_getElem? (i := 382) (by decide +kernel)) rfl
set_option maxRecDepth 100000 in
theorem q_384 : (.methodLink RX2 41 yX2_pass) ∈ GW := gw_t (List.mem_of_getElem? (i := 384) (by decide +kernel)) rfl
set_option maxRecDepth 100000 in
theorem q_385 : (.instanceMethod yX2_pass) ∈ GW := gw_t (List.mem_of_getElem? (i := 385) (by decide +kernel)) rfl
set_option maxRecDepth 100000 in
theorem q_386 : (.selects RX2 yX2_pass yX2_pass) ∈ GW := gw_t (List.mem_of_getElem? (i := 386) (by decide +kernel)) rfl
set_option maxRecDepth 100000 in
theorem q_387 : (.code yX2_pass cX2_pass 3 (some .boolean)) ∈ GW := gw_t (List.mem_of_getElem? (i := 387) (by decide +kernel)) rfl
set_option maxRecDepth 100000 in
theorem q_388 : (.methodLink RX2 74 yJ0_length_8abf5) ∈ GW := gw_t (List.mem_of_getElem? (i := 388) (by decide +kernel)) rfl
set_option maxRecDepth 100000 in
theorem q_389 : (.instanceMethod yJ0_length_8abf5) ∈ GW := gw_t (List.mem_of_getElem? (i := 389) (by decide +kernel)) rfl
set_option maxRecDepth 100000 in
theorem q_390 : (.selects RJ0 yJ0_length_8abf5 yJ0_length_8abf5) ∈ GW := gw_t (List.mem_of_getElem? (i := 390) (by decide +kernel)) rfl
set_option maxRecDepth 100000 in
theorem q_391 : (.code yJ0_length_8abf5 cJ0_length_8abf5 1 (some .int)) ∈ GW := gw_t (List.mem_of_getElem? (i := 391) (by decide +kernel)) rfl
set_option maxRecDepth 100000 in
theorem q_392 : (.methodLink RJ0 335 yJ0_coder_7d493) ∈ GW := gw_t (List.mem_of_getElem? (i := 392) (by decide +kernel)) rfl
set_option maxRecDepth 100000 in
theorem q_393 : (.instanceMethod yJ0_coder_7d493) ∈ GW := gw_t (List.mem_of_getElem? (i := 393) (by decide +kernel)) rfl
set_option maxRecDepth 100000 in
theorem q_394 : (.selects RJ0 yJ0_coder_7d493 yJ0_coder_7d493) ∈ GW := gw_t (List.mem_of_getElem? (i := 394) (by decide +kernel)) rfl
set_option maxRecDepth 100000 in
theorem q_395 : (.code yJ0_coder_7d493 cJ0_coder_7d493 1 (some .byte)) ∈ GW := gw_t (List.mem_of_getElem? (i := 395) (by decide +kernel)) rfl
set_option maxRecDepth 100000 in
theorem q_396 : (.fieldLink RJ0 38 "java/lang/String" "COMPACT_STRINGS" "Z") ∈ GW := gw_t (List.mem_of_getElem? (i := 396) (by decide +kernel)) rfl
set_option maxRecDepth 100000 in
theorem q_398 : (.methodLink RX2 78 yJ0_charAt_5068e) ∈ GW := gw_t (List.mem_of_getElem? (i := 398) (by decide +kernel)) rfl
set_option maxRecDepth 100000 in
theorem q_399 : (.instanceMethod yJ0_charAt_5068e) ∈ GW := gw_t (List.mem_of_getElem? (i := 399) (by decide +kernel)) rfl
set_option maxRecDepth 100000 in
theorem q_400 : (.selects RJ0 yJ0_charAt_5068e yJ0_charAt_5068e) ∈ GW := gw_t (List.mem_of_getElem? (i := 400) (by decide +kernel)) rfl
set_option maxRecDepth 100000 in
theorem q_401 : (.code yJ0_charAt_5068e cJ0_charAt_5068e 2 (some .char)) ∈ GW := gw_t (List.mem_of_getElem? (i := 401) (by decide +kernel)) rfl
set_option maxRecDepth 100000 in
theorem q_402 : (.methodLink RJ0 492 yJ0_isLatin1_aae02) ∈ GW := gw_t (List.mem_of_getElem? (i := 402) (by decide +kernel)) rfl
set_option maxRecDepth 100000 in
theorem q_403 : (.instanceMethod yJ0_isLatin1_aae02) ∈ GW := gw_t (List.mem_of_getElem? (i := 403) (by decide +kernel)) rfl
set_option maxRecDepth 100000 in
theorem q_404 : (.selects RJ0 yJ0_isLatin1_aae02 yJ0_isLatin1_aae02) ∈ GW := gw_t (List.mem_of_getElem? (i := 404) (by decide +kernel)) rfl
set_option maxRecDepth 100000 in
theorem q_405 : (.code yJ0_isLatin1_aae02 cJ0_isLatin1_aae02 1 (some .boolean)) ∈ GW := gw_t (List.mem_of_getElem? (i := 405) (by decide +kernel)) rfl
set_option maxRecDepth 100000 in
theorem q_406 : (.methodLink RJ0 495 yJ1_charAt_3b067) ∈ GW := gw_t (List.mem_of_getElem? (i := 406) (by decide +kernel)) rfl
set_option maxRecDepth 100000 in
theorem q_407 : (.static yJ1_charAt_3b067) ∈ GW := gw_t (List.mem_of_getElem? (i := 407) (by decide +kernel)) rfl
set_option maxRecDepth 100000 in
theorem q_408 : (.code yJ1_charAt_3b067 cJ1_charAt_3b067 2 (some .char)) ∈ GW := gw_t (List.mem_of_getElem? (i := 408) (by decide +kernel)) rfl
set_option maxRecDepth 100000 in
theorem q_409 : (.methodLink RJ1 9 yJ0_checkIndex_df160) ∈ GW := gw_t (List.mem_of_getElem? (i := 409) (by decide +kernel)) rfl
set_option maxRecDepth 100000 in
theorem q_410 : (.static yJ0_checkIndex_df160) ∈ GW := gw_t (List.mem_of_getElem? (i := 410) (by decide +kernel)) rfl
set_option maxRecDepth 100000 in
theorem q_411 : (.code yJ0_checkIndex_df160 cJ0_checkIndex_df160 2 none) ∈ GW := gw_t (List.mem_of_getElem? (i := 411) (by decide +kernel)) rfl
set_option maxRecDepth 100000 in
theorem q_412 : (.fieldLink RJ0 1053 "jdk/internal/util/Preconditions" "SIOOBE_FORMATTER" "Ljava/util/function/BiFunction;") ∈ GW := gw_t (List.mem_of_getElem? (i := 412) (by decide +kernel)) rfl
set_option maxRecDepth 100000 in
theorem q_414 : (.methodLink RJ0 1059 yJ3_checkIndex_8e157) ∈ GW := gw_t (List.mem_of_getElem? (i := 414) (by decide +kernel)) rfl
set_option maxRecDepth 100000 in
theorem q_415 : (.static yJ3_checkIndex_8e157) ∈ GW := gw_t (List.mem_of_getElem? (i := 415) (by decide +kernel)) rfl
set_option maxRecDepth 100000 in
theorem q_416 : (.code yJ3_checkIndex_8e157 cJ3_checkIndex_8e157 3 (some .int)) ∈ GW := gw_t (List.mem_of_getElem? (i := 416) (by decide +kernel)) rfl
set_option maxRecDepth 100000 in
theorem q_417 : (.methodLink RJ0 498 yJ2_charAt_3b067) ∈ GW := gw_t (List.mem_of_getElem? (i := 417) (by decide +kernel)) rfl
set_option maxRecDepth 100000 in
theorem q_418 : (.static yJ2_charAt_3b067) ∈ GW := gw_t (List.mem_of_getElem? (i := 418) (by decide +kernel)) rfl
set_option maxRecDepth 100000 in
theorem q_419 : (.code yJ2_charAt_3b067 cJ2_charAt_3b067 2 (some .char)) ∈ GW := gw_t (List.mem_of_getElem? (i := 419) (by decide +kernel)) rfl
set_option maxRecDepth 100000 in
theorem q_420 : (.methodLink RJ2 67 yJ2_checkIndex_2214a) ∈ GW := gw_t (List.mem_of_getElem? (i := 420) (by decide +kernel)) rfl
set_option maxRecDepth 100000 in
theorem q_421 : (.static yJ2_checkIndex_2214a) ∈ GW := gw_t (List.mem_of_getElem? (i := 421) (by decide +kernel)) rfl
set_option maxRecDepth 100000 in
theorem q_422 : (.code yJ2_checkIndex_2214a cJ2_checkIndex_2214a 2 none) ∈ GW := gw_t (List.mem_of_getElem? (i := 422) (by decide +kernel)) rfl
set_option maxRecDepth 100000 in
theorem q_423 : (.methodLink RJ2 48 yJ2_length_9d52b) ∈ GW := gw_t (List.mem_of_getElem? (i := 423) (by decide +kernel)) rfl
set_option maxRecDepth 100000 in
theorem q_424 : (.static yJ2_length_9d52b) ∈ GW := gw_t (List.mem_of_getElem? (i := 424) (by decide +kernel)) rfl
set_option maxRecDepth 100000 in
theorem q_425 : (.code yJ2_length_9d52b cJ2_length_9d52b 1 (some .int)) ∈ GW := gw_t (List.mem_of_getElem? (i := 425) (by decide +kernel)) rfl
set_option maxRecDepth 100000 in
theorem q_426 : (.methodLink RJ2 414 yJ0_checkIndex_df160) ∈ GW := gw_t (List.mem_of_getElem? (i := 426) (by decide +kernel)) rfl
set_option maxRecDepth 100000 in
theorem q_427 : (.methodLink RJ2 71 yJ2_getChar_3b067) ∈ GW := gw_t (List.mem_of_getElem? (i := 427) (by decide +kernel)) rfl
set_option maxRecDepth 100000 in
theorem q_428 : (.static yJ2_getChar_3b067) ∈ GW := gw_t (List.mem_of_getElem? (i := 428) (by decide +kernel)) rfl
set_option maxRecDepth 100000 in
theorem q_429 : (.code yJ2_getChar_3b067 cJ2_getChar_3b067 2 (some .char)) ∈ GW := gw_t (List.mem_of_getElem? (i := 429) (by decide +kernel)) rfl
set_option maxRecDepth 100000 in
theorem q_430 : (.fieldLink RJ2 44 "java/lang/StringUTF16" "$assertionsDisabled" "Z") ∈ GW := gw_t (List.mem_of_getElem? (i := 430) (by decide +kernel)) rfl
set_option maxRecDepth 100000 in
theorem q_432 : (.fieldLink RJ2 59 "java/lang/StringUTF16" "HI_BYTE_SHIFT" "I") ∈ GW := gw_t (List.mem_of_getElem? (i := 432) (by decide +kernel)) rfl
set_option maxRecDepth 100000 in
theorem q_434 : (.fieldLink RJ2 63 "java/lang/StringUTF16" "LO_BYTE_SHIFT" "I") ∈ GW := gw_t (List.mem_of_getElem? (i := 434) (by decide +kernel)) rfl
set_option maxRecDepth 100000 in
theorem q_440 : (.methodLink RX2 49 yX2_readNumber) ∈ GW := gw_t (List.mem_of_getElem? (i := 440) (by decide +kernel)) rfl
set_option maxRecDepth 100000 in
theorem q_441 : (.instanceMethod yX2_readNumber) ∈ GW := gw_t (List.mem_of_getElem? (i := 441) (by decide +kernel)) rfl
set_option maxRecDepth 100000 in
theorem q_442 : (.selects RX2 yX2_readNumber yX2_readNumber) ∈ GW := gw_t (List.mem_of_getElem? (i := 442) (by decide +kernel)) rfl
set_option maxRecDepth 100000 in
theorem q_443 : (.code yX2_readNumber cX2_readNumber 5 (some .int)) ∈ GW := gw_t (List.mem_of_getElem? (i := 443) (by decide +kernel)) rfl
set_option maxRecDepth 100000 in
theorem q_445 : (.methodLink RX2 71 yX2_digit) ∈ GW := gw_t (List.mem_of_getElem? (i := 445) (by decide +kernel)) rfl
set_option maxRecDepth 100000 in
theorem q_446 : (.instanceMethod yX2_digit) ∈ GW := gw_t (List.mem_of_getElem? (i := 446) (by decide +kernel)) rfl
set_option maxRecDepth 100000 in
theorem q_447 : (.selects RX2 yX2_digit yX2_digit) ∈ GW := gw_t (List.mem_of_getElem? (i := 447) (by decide +kernel)) rfl
set_option maxRecDepth 100000 in
theorem q_448 : (.code yX2_digit cX2_digit 2 (some .int)) ∈ GW := gw_t (List.mem_of_getElem? (i := 448) (by decide +kernel)) rfl
set_option maxRecDepth 100000 in
theorem q_450 : (.arrayClass .byte) ∈ GW := gw_t (List.mem_of_getElem? (i := 450) (by decide +kernel)) rfl
set_option maxRecDepth 100000 in
theorem q_451 : (.methodLink RL 15 yX5_pin) ∈ GW := gw_t (List.mem_of_getElem? (i := 451) (by decide +kernel)) rfl
set_option maxRecDepth 100000 in
theorem q_452 : (.instanceMethod yX5_pin) ∈ GW := gw_t (List.mem_of_getElem? (i := 452) (by decide +kernel)) rfl
set_option maxRecDepth 100000 in
theorem q_453 : (.selects RX5 yX5_pin yX5_pin) ∈ GW := gw_t (List.mem_of_getElem? (i := 453) (by decide +kernel)) rfl
set_option maxRecDepth 100000 in
theorem q_454 : (.code yX5_pin cX5_pin 3 (some .int)) ∈ GW := gw_t (List.mem_of_getElem? (i := 454) (by decide +kernel)) rfl
set_option maxRecDepth 100000 in
theorem q_455 : (.methodLink RX5 89 yX5_hasPlan) ∈ GW := gw_t (List.mem_of_getElem? (i := 455) (by decide +kernel)) rfl
set_option maxRecDepth 100000 in
theorem q_457 : (.instanceMethod yX5_hasPlan) ∈ GW := gw_t (List.mem_of_getElem? (i := 457) (by decide +kernel)) rfl
set_option maxRecDepth 100000 in
theorem q_458 : (.code yX5_hasPlan cX5_hasPlan 2 (some .boolean)) ∈ GW := gw_t (List.mem_of_getElem? (i := 458) (by decide +kernel)) rfl
set_option maxRecDepth 100000 in
theorem q_459 : (.methodLink RX5 101 yX3_pinnedPlans) ∈ GW := gw_t (List.mem_of_getElem? (i := 459) (by decide +kernel)) rfl
set_option maxRecDepth 100000 in
theorem q_460 : (.methodLink RL 19 yX5_throwOut) ∈ GW := gw_t (List.mem_of_getElem? (i := 460) (by decide +kernel)) rfl
set_option maxRecDepth 100000 in
theorem q_461 : (.instanceMethod yX5_throwOut) ∈ GW := gw_t (List.mem_of_getElem? (i := 461) (by decide +kernel)) rfl
set_option maxRecDepth 100000 in
theorem q_462 : (.selects RX5 yX5_throwOut yX5_throwOut) ∈ GW := gw_t (List.mem_of_getElem? (i := 462) (by decide +kernel)) rfl
set_option maxRecDepth 100000 in
theorem q_463 : (.code yX5_throwOut cX5_throwOut 2 (some .int)) ∈ GW := gw_t (List.mem_of_getElem? (i := 463) (by decide +kernel)) rfl
set_option maxRecDepth 100000 in
theorem q_464 : (.methodLink RX5 107 yX3_keptPlans) ∈ GW := gw_t (List.mem_of_getElem? (i := 464) (by decide +kernel)) rfl
set_option maxRecDepth 100000 in
theorem q_465 : (.methodLink RL 23 yX5_make) ∈ GW := gw_t (List.mem_of_getElem? (i := 465) (by decide +kernel)) rfl
set_option maxRecDepth 100000 in
theorem q_466 : (.instanceMethod yX5_make) ∈ GW := gw_t (List.mem_of_getElem? (i := 466) (by decide +kernel)) rfl
set_option maxRecDepth 100000 in
theorem q_467 : (.selects RX5 yX5_make yX5_make) ∈ GW := gw_t (List.mem_of_getElem? (i := 467) (by decide +kernel)) rfl
set_option maxRecDepth 100000 in
theorem q_468 : (.code yX5_make cX5_make 6 (some .int)) ∈ GW := gw_t (List.mem_of_getElem? (i := 468) (by decide +kernel)) rfl
set_option maxRecDepth 100000 in
theorem q_469 : (.methodLink RX5 110 yX5_isWay) ∈ GW := gw_t (List.mem_of_getElem? (i := 469) (by decide +kernel)) rfl
set_option maxRecDepth 100000 in
theorem q_470 : (.static yX5_isWay) ∈ GW := gw_t (List.mem_of_getElem? (i := 470) (by decide +kernel)) rfl
set_option maxRecDepth 100000 in
theorem q_471 : (.code yX5_isWay cX5_isWay 1 (some .boolean)) ∈ GW := gw_t (List.mem_of_getElem? (i := 471) (by decide +kernel)) rfl
set_option maxRecDepth 100000 in
theorem q_472 : (.constant RX5 113 (99999 : Int32)) ∈ GW := gw_t (List.mem_of_getElem? (i := 472) (by decide +kernel)) rfl
set_option maxRecDepth 100000 in
theorem q_473 : (.methodLink RX5 114 yX3_couldKeep) ∈ GW := gw_t (List.mem_of_getElem? (i := 473) (by decide +kernel)) rfl
set_option maxRecDepth 100000 in
theorem q_474 : (.methodLink RX5 117 yX3_makeRoomFor) ∈ GW := gw_t (List.mem_of_getElem? (i := 474) (by decide +kernel)) rfl
set_option maxRecDepth 100000 in
theorem q_475 : (.methodLink RX5 121 yX3_place) ∈ GW := gw_t (List.mem_of_getElem? (i := 475) (by decide +kernel)) rfl
set_option maxRecDepth 100000 in
theorem q_476 : (.methodLink RL 27 yX5_set) ∈ GW := gw_t (List.mem_of_getElem? (i := 476) (by decide +kernel)) rfl
set_option maxRecDepth 100000 in
theorem q_477 : (.instanceMethod yX5_set) ∈ GW := gw_t (List.mem_of_getElem? (i := 477) (by decide +kernel)) rfl
set_option maxRecDepth 100000 in
theorem q_478 : (.selects RX5 yX5_set yX5_set) ∈ GW := gw_t (List.mem_of_getElem? (i := 478) (by decide +kernel)) rfl
set_option maxRecDepth 100000 in
theorem q_479 : (.code yX5_set cX5_set 4 (some .int)) ∈ GW := gw_t (List.mem_of_getElem? (i := 479) (by decide +kernel)) rfl
set_option maxRecDepth 100000 in
theorem q_480 : (.fieldLink RX5 125 "KeptPlans" "LEAST_SETTING" "[I") ∈ GW := gw_t (List.mem_of_getElem? (i := 480) (by decide +kernel)) rfl
set_option maxRecDepth 100000 in
theorem q_482 : (.fieldLink RX5 128 "KeptPlans" "MOST_SETTING" "[I") ∈ GW := gw_t (List.mem_of_getElem? (i := 482) (by decide +kernel)) rfl
set_option maxRecDepth 100000 in
theorem q_484 : (.methodLink RX5 134 yX3_crowdOutDownTo) ∈ GW := gw_t (List.mem_of_getElem? (i := 484) (by decide +kernel)) rfl
set_option maxRecDepth 100000 in
theorem q_485 : (.methodLink RL 61 yX5_undo) ∈ GW := gw_t (List.mem_of_getElem? (i := 485) (by decide +kernel)) rfl
set_option maxRecDepth 100000 in
theorem q_486 : (.instanceMethod yX5_undo) ∈ GW := gw_t (List.mem_of_getElem? (i := 486) (by decide +kernel)) rfl
set_option maxRecDepth 100000 in
theorem q_487 : (.selects RX5 yX5_undo yX5_undo) ∈ GW := gw_t (List.mem_of_getElem? (i := 487) (by decide +kernel)) rfl
set_option maxRecDepth 100000 in
theorem q_488 : (.code yX5_undo cX5_undo 1 (some .int)) ∈ GW := gw_t (List.mem_of_getElem? (i := 488) (by decide +kernel)) rfl
set_option maxRecDepth 100000 in
theorem q_489 : (.methodLink RX5 147 yX0_takeBack) ∈ GW := gw_t (List.mem_of_getElem? (i := 489) (by decide +kernel)) rfl
set_option maxRecDepth 100000 in
theorem q_490 : (.instanceMethod yX0_takeBack) ∈ GW := gw_t (List.mem_of_getElem? (i := 490) (by decide +kernel)) rfl
set_option maxRecDepth 100000 in
theorem q_491 : (.selects RX0 yX0_takeBack yX0_takeBack) ∈ GW := gw_t (List.mem_of_getElem? (i := 491) (by decide +kernel)) rfl
set_option maxRecDepth 100000 in
theorem q_492 : (.code yX0_takeBack cX0_takeBack 2 none) ∈ GW := gw_t (List.mem_of_getElem? (i := 492) (by decide +kernel)) rfl
set_option maxRecDepth 100000 in
theorem q_493 : (.methodLink RL 64 yX5_restore) ∈ GW := gw_t (List.mem_of_getElem? (i := 493) (by decide +kernel)) rfl
set_option maxRecDepth 100000 in
theorem q_494 : (.instanceMethod yX5_restore) ∈ GW := gw_t (List.mem_of_getElem? (i := 494) (by decide +kernel)) rfl
set_option maxRecDepth 100000 in
theorem q_495 : (.selects RX5 yX5_restore yX5_restore) ∈ GW := gw_t (List.mem_of_getElem? (i := 495) (by decide +kernel)) rfl
set_option maxRecDepth 100000 in
theorem q_496 : (.code yX5_restore cX5_restore 1 (some .int)) ∈ GW := gw_t (List.mem_of_getElem? (i := 496) (by decide +kernel)) rfl
set_option maxRecDepth 100000 in
theorem q_497 : (.methodLink RX5 150 yX3_copyFrom) ∈ GW := gw_t (List.mem_of_getElem? (i := 497) (by decide +kernel)) rfl
set_option maxRecDepth 100000 in
theorem q_498 : (.methodLink RL 46 yX5_cost) ∈ GW := gw_t (List.mem_of_getElem? (i := 498) (by decide +kernel)) rfl
set_option maxRecDepth 100000 in
theorem q_499 : (.instanceMethod yX5_cost) ∈ GW := gw_t (List.mem_of_getElem? (i := 499) (by decide +kernel)) rfl
