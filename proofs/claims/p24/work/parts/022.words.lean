set_option maxRecDepth 100000 in
theorem q_500 : (.selects RX5 yX5_cost yX5_cost) ∈ GW := gw_t (List.mem_of_getElem? (i := 500) (by decide +kernel)) rfl
set_option maxRecDepth 100000 in
theorem q_501 : (.code yX5_cost cX5_cost 4 (some .int)) ∈ GW := gw_t (List.mem_of_getElem? (i := 501) (by decide +kernel)) rfl
set_option maxRecDepth 100000 in
theorem q_502 : (.methodLink RX5 153 yX3_priceBy) ∈ GW := gw_t (List.mem_of_getElem? (i := 502) (by decide +kernel)) rfl
set_option maxRecDepth 100000 in
theorem q_503 : (.methodLink RL 54 yX5_cheapest) ∈ GW := gw_t (List.mem_of_getElem? (i := 503) (by decide +kernel)) rfl
set_option maxRecDepth 100000 in
theorem q_504 : (.instanceMethod yX5_cheapest) ∈ GW := gw_t (List.mem_of_getElem? (i := 504) (by decide +kernel)) rfl
set_option maxRecDepth 100000 in
theorem q_505 : (.selects RX5 yX5_cheapest yX5_cheapest) ∈ GW := gw_t (List.mem_of_getElem? (i := 505) (by decide +kernel)) rfl
set_option maxRecDepth 100000 in
theorem q_506 : (.code yX5_cheapest cX5_cheapest 3 (some .int)) ∈ GW := gw_t (List.mem_of_getElem? (i := 506) (by decide +kernel)) rfl
set_option maxRecDepth 100000 in
theorem q_507 : (.methodLink RX5 157 yX3_cheapestWay) ∈ GW := gw_t (List.mem_of_getElem? (i := 507) (by decide +kernel)) rfl
set_option maxRecDepth 100000 in
theorem q_508 : (.methodLink RL 34 yX5_plan) ∈ GW := gw_t (List.mem_of_getElem? (i := 508) (by decide +kernel)) rfl
set_option maxRecDepth 100000 in
theorem q_509 : (.instanceMethod yX5_plan) ∈ GW := gw_t (List.mem_of_getElem? (i := 509) (by decide +kernel)) rfl
set_option maxRecDepth 100000 in
theorem q_510 : (.selects RX5 yX5_plan yX5_plan) ∈ GW := gw_t (List.mem_of_getElem? (i := 510) (by decide +kernel)) rfl
set_option maxRecDepth 100000 in
theorem q_511 : (.code yX5_plan cX5_plan 4 (some .int)) ∈ GW := gw_t (List.mem_of_getElem? (i := 511) (by decide +kernel)) rfl
set_option maxRecDepth 100000 in
theorem q_512 : (.methodLink RX5 181 yX3_isStale) ∈ GW := gw_t (List.mem_of_getElem? (i := 512) (by decide +kernel)) rfl
set_option maxRecDepth 100000 in
theorem q_513 : (.instanceMethod yX3_isStale) ∈ GW := gw_t (List.mem_of_getElem? (i := 513) (by decide +kernel)) rfl
set_option maxRecDepth 100000 in
theorem q_514 : (.selects RX3 yX3_isStale yX3_isStale) ∈ GW := gw_t (List.mem_of_getElem? (i := 514) (by decide +kernel)) rfl
set_option maxRecDepth 100000 in
theorem q_515 : (.code yX3_isStale cX3_isStale 2 (some .boolean)) ∈ GW := gw_t (List.mem_of_getElem? (i := 515) (by decide +kernel)) rfl
set_option maxRecDepth 100000 in
theorem q_516 : (.methodLink RL 37 yX5_reason) ∈ GW := gw_t (List.mem_of_getElem? (i := 516) (by decide +kernel)) rfl
set_option maxRecDepth 100000 in
theorem q_517 : (.instanceMethod yX5_reason) ∈ GW := gw_t (List.mem_of_getElem? (i := 517) (by decide +kernel)) rfl
set_option maxRecDepth 100000 in
theorem q_518 : (.selects RX5 yX5_reason yX5_reason) ∈ GW := gw_t (List.mem_of_getElem? (i := 518) (by decide +kernel)) rfl
set_option maxRecDepth 100000 in
theorem q_519 : (.code yX5_reason cX5_reason 3 (some .int)) ∈ GW := gw_t (List.mem_of_getElem? (i := 519) (by decide +kernel)) rfl
set_option maxRecDepth 100000 in
theorem q_520 : (.methodLink RX5 191 yX3_whyNotUsed) ∈ GW := gw_t (List.mem_of_getElem? (i := 520) (by decide +kernel)) rfl
set_option maxRecDepth 100000 in
theorem q_521 : (.methodLink RL 80 yX5_ifAsked) ∈ GW := gw_t (List.mem_of_getElem? (i := 521) (by decide +kernel)) rfl
set_option maxRecDepth 100000 in
theorem q_522 : (.instanceMethod yX5_ifAsked) ∈ GW := gw_t (List.mem_of_getElem? (i := 522) (by decide +kernel)) rfl
set_option maxRecDepth 100000 in
theorem q_523 : (.selects RX5 yX5_ifAsked yX5_ifAsked) ∈ GW := gw_t (List.mem_of_getElem? (i := 523) (by decide +kernel)) rfl
set_option maxRecDepth 100000 in
theorem q_524 : (.code yX5_ifAsked cX5_ifAsked 9 (some .int)) ∈ GW := gw_t (List.mem_of_getElem? (i := 524) (by decide +kernel)) rfl
set_option maxRecDepth 100000 in
theorem q_525 : (.methodLink RX5 194 yX3_isTooDear) ∈ GW := gw_t (List.mem_of_getElem? (i := 525) (by decide +kernel)) rfl
set_option maxRecDepth 100000 in
theorem q_526 : (.methodLink RX5 197 yX3_firstCrowdedOutBy) ∈ GW := gw_t (List.mem_of_getElem? (i := 526) (by decide +kernel)) rfl
set_option maxRecDepth 100000 in
theorem q_527 : (.instanceMethod yX3_firstCrowdedOutBy) ∈ GW := gw_t (List.mem_of_getElem? (i := 527) (by decide +kernel)) rfl
set_option maxRecDepth 100000 in
theorem q_528 : (.selects RX3 yX3_firstCrowdedOutBy yX3_firstCrowdedOutBy) ∈ GW := gw_t (List.mem_of_getElem? (i := 528) (by decide +kernel)) rfl
set_option maxRecDepth 100000 in
theorem q_529 : (.code yX3_firstCrowdedOutBy cX3_firstCrowdedOutBy 2 (some .int)) ∈ GW := gw_t (List.mem_of_getElem? (i := 529) (by decide +kernel)) rfl
set_option maxRecDepth 100000 in
theorem q_530 : (.methodLink RL 57 yX5_reach) ∈ GW := gw_t (List.mem_of_getElem? (i := 530) (by decide +kernel)) rfl
set_option maxRecDepth 100000 in
theorem q_531 : (.instanceMethod yX5_reach) ∈ GW := gw_t (List.mem_of_getElem? (i := 531) (by decide +kernel)) rfl
set_option maxRecDepth 100000 in
theorem q_532 : (.selects RX5 yX5_reach yX5_reach) ∈ GW := gw_t (List.mem_of_getElem? (i := 532) (by decide +kernel)) rfl
set_option maxRecDepth 100000 in
theorem q_533 : (.code yX5_reach cX5_reach 5 (some .int)) ∈ GW := gw_t (List.mem_of_getElem? (i := 533) (by decide +kernel)) rfl
set_option maxRecDepth 100000 in
theorem q_534 : (.methodLink RL 50 yX5_oldest) ∈ GW := gw_t (List.mem_of_getElem? (i := 534) (by decide +kernel)) rfl
set_option maxRecDepth 100000 in
theorem q_535 : (.instanceMethod yX5_oldest) ∈ GW := gw_t (List.mem_of_getElem? (i := 535) (by decide +kernel)) rfl
set_option maxRecDepth 100000 in
theorem q_536 : (.selects RX5 yX5_oldest yX5_oldest) ∈ GW := gw_t (List.mem_of_getElem? (i := 536) (by decide +kernel)) rfl
set_option maxRecDepth 100000 in
theorem q_537 : (.code yX5_oldest cX5_oldest 1 (some .int)) ∈ GW := gw_t (List.mem_of_getElem? (i := 537) (by decide +kernel)) rfl
set_option maxRecDepth 100000 in
theorem q_538 : (.methodLink RX5 204 yX3_oldestUnpinned) ∈ GW := gw_t (List.mem_of_getElem? (i := 538) (by decide +kernel)) rfl
set_option maxRecDepth 100000 in
theorem q_539 : (.methodLink RL 40 yX5_tableOf) ∈ GW := gw_t (List.mem_of_getElem? (i := 539) (by decide +kernel)) rfl
set_option maxRecDepth 100000 in
theorem q_540 : (.instanceMethod yX5_tableOf) ∈ GW := gw_t (List.mem_of_getElem? (i := 540) (by decide +kernel)) rfl
set_option maxRecDepth 100000 in
theorem q_541 : (.selects RX5 yX5_tableOf yX5_tableOf) ∈ GW := gw_t (List.mem_of_getElem? (i := 541) (by decide +kernel)) rfl
set_option maxRecDepth 100000 in
theorem q_542 : (.code yX5_tableOf cX5_tableOf 4 (some .int)) ∈ GW := gw_t (List.mem_of_getElem? (i := 542) (by decide +kernel)) rfl
set_option maxRecDepth 100000 in
theorem q_543 : (.methodLink RX5 207 yX3_keptPlansOf) ∈ GW := gw_t (List.mem_of_getElem? (i := 543) (by decide +kernel)) rfl
set_option maxRecDepth 100000 in
theorem q_544 : (.instanceMethod yX3_keptPlansOf) ∈ GW := gw_t (List.mem_of_getElem? (i := 544) (by decide +kernel)) rfl
set_option maxRecDepth 100000 in
theorem q_545 : (.selects RX3 yX3_keptPlansOf yX3_keptPlansOf) ∈ GW := gw_t (List.mem_of_getElem? (i := 545) (by decide +kernel)) rfl
set_option maxRecDepth 100000 in
theorem q_546 : (.code yX3_keptPlansOf cX3_keptPlansOf 4 (some .int)) ∈ GW := gw_t (List.mem_of_getElem? (i := 546) (by decide +kernel)) rfl
set_option maxRecDepth 100000 in
theorem q_547 : (.methodLink RL 43 yX5_count) ∈ GW := gw_t (List.mem_of_getElem? (i := 547) (by decide +kernel)) rfl
set_option maxRecDepth 100000 in
theorem q_548 : (.instanceMethod yX5_count) ∈ GW := gw_t (List.mem_of_getElem? (i := 548) (by decide +kernel)) rfl
set_option maxRecDepth 100000 in
theorem q_549 : (.selects RX5 yX5_count yX5_count) ∈ GW := gw_t (List.mem_of_getElem? (i := 549) (by decide +kernel)) rfl
set_option maxRecDepth 100000 in
theorem q_550 : (.code yX5_count cX5_count 2 (some .int)) ∈ GW := gw_t (List.mem_of_getElem? (i := 550) (by decide +kernel)) rfl
set_option maxRecDepth 100000 in
theorem q_551 : (.methodLink RX5 214 yX3_stalePlans) ∈ GW := gw_t (List.mem_of_getElem? (i := 551) (by decide +kernel)) rfl
set_option maxRecDepth 100000 in
theorem q_552 : (.instanceMethod yX3_stalePlans) ∈ GW := gw_t (List.mem_of_getElem? (i := 552) (by decide +kernel)) rfl
set_option maxRecDepth 100000 in
theorem q_553 : (.selects RX3 yX3_stalePlans yX3_stalePlans) ∈ GW := gw_t (List.mem_of_getElem? (i := 553) (by decide +kernel)) rfl
set_option maxRecDepth 100000 in
theorem q_554 : (.code yX3_stalePlans cX3_stalePlans 3 (some .int)) ∈ GW := gw_t (List.mem_of_getElem? (i := 554) (by decide +kernel)) rfl
set_option maxRecDepth 100000 in
theorem q_555 : (.methodLink RX3 176 yX3_isStale) ∈ GW := gw_t (List.mem_of_getElem? (i := 555) (by decide +kernel)) rfl
set_option maxRecDepth 100000 in
theorem q_556 : (.methodLink RL 76 yL_cell) ∈ GW := gw_t (List.mem_of_getElem? (i := 556) (by decide +kernel)) rfl
set_option maxRecDepth 100000 in
theorem q_557 : (.static yL_cell) ∈ GW := gw_t (List.mem_of_getElem? (i := 557) (by decide +kernel)) rfl
set_option maxRecDepth 100000 in
theorem q_558 : (.code yL_cell cL_cell 2 (some .int)) ∈ GW := gw_t (List.mem_of_getElem? (i := 558) (by decide +kernel)) rfl
set_option maxRecDepth 100000 in
theorem q_559 : (.constant RL 7 (47881 : Int32)) ∈ GW := gw_t (List.mem_of_getElem? (i := 559) (by decide +kernel)) rfl
set_option maxRecDepth 100000 in
theorem q_560 : (.constant RL 8 (2147483647 : Int32)) ∈ GW := gw_t (List.mem_of_getElem? (i := 560) (by decide +kernel)) rfl
set_option maxRecDepth 100000 in
theorem q_561 : (.methodLink RL 83 yL_acts) ∈ GW := gw_t (List.mem_of_getElem? (i := 561) (by decide +kernel)) rfl
set_option maxRecDepth 100000 in
theorem q_562 : (.static yL_acts) ∈ GW := gw_t (List.mem_of_getElem? (i := 562) (by decide +kernel)) rfl
set_option maxRecDepth 100000 in
theorem q_563 : (.code yL_acts cL_acts 4 (some .int)) ∈ GW := gw_t (List.mem_of_getElem? (i := 563) (by decide +kernel)) rfl
set_option maxRecDepth 100000 in
theorem q_564 : (.methodLink RL 70 yL_hangs) ∈ GW := gw_t (List.mem_of_getElem? (i := 564) (by decide +kernel)) rfl
set_option maxRecDepth 100000 in
theorem q_565 : (.static yL_hangs) ∈ GW := gw_t (List.mem_of_getElem? (i := 565) (by decide +kernel)) rfl
set_option maxRecDepth 100000 in
theorem q_566 : (.code yL_hangs cL_hangs 14 (some .boolean)) ∈ GW := gw_t (List.mem_of_getElem? (i := 566) (by rfl)) rfl
set_option maxRecDepth 100000 in
theorem q_567 : (.methodLink RL 87 yL_ways) ∈ GW := gw_t (List.mem_of_getElem? (i := 567) (by decide +kernel)) rfl
set_option maxRecDepth 100000 in
theorem q_568 : (.static yL_ways) ∈ GW := gw_t (List.mem_of_getElem? (i := 568) (by decide +kernel)) rfl
set_option maxRecDepth 100000 in
theorem q_569 : (.code yL_ways cL_ways 8 (some .boolean)) ∈ GW := gw_t (List.mem_of_getElem? (i := 569) (by decide +kernel)) rfl
set_option maxRecDepth 100000 in
theorem q_570 : (.fieldLink RJ0 9 "java/lang/String" "value" "[B") ∈ GW := gw_t (List.mem_of_getElem? (i := 570) (by decide +kernel)) rfl
set_option maxRecDepth 100000 in
theorem q_571 : (.fieldLink RJ0 15 "java/lang/String" "coder" "B") ∈ GW := gw_t (List.mem_of_getElem? (i := 571) (by decide +kernel)) rfl
set_option maxRecDepth 100000 in
theorem qs_0 : (.selects RX5 yX5_hasPlan yX5_hasPlan) ∈ GW := List.mem_filter.mpr ⟨List.mem_append_left _ (List.mem_of_getElem? (i := 0) (by decide +kernel)), rfl⟩
set_option maxRecDepth 100000 in
theorem inX0 : ∀ w ∈ wsX00, w ∈ GW := by decide +kernel
set_option maxRecDepth 100000 in
theorem inX1 : ∀ w ∈ wsX10, w ∈ GW := by decide +kernel
set_option maxRecDepth 100000 in
theorem inX2 : ∀ w ∈ wsX20, w ∈ GW := by decide +kernel
set_option maxRecDepth 100000 in
theorem inX3 : ∀ w ∈ wsX30, w ∈ GW := by decide +kernel
set_option maxRecDepth 100000 in
theorem inX4 : ∀ w ∈ wsX40, w ∈ GW := by decide +kernel
set_option maxRecDepth 100000 in
theorem inX5 : ∀ w ∈ wsX50, w ∈ GW := by decide +kernel
