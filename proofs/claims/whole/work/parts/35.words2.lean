/-! more words -/
theorem t_1 : Cond.selects R_Box y_Box_requireOn y_Box_requireOn ∈ TB := TB_mem 1 (by decide +kernel) (by decide +kernel)
theorem t_3 : Cond.selects R_Box y_Box_passMinute y_Box_passMinute ∈ TB := TB_mem 3 (by decide +kernel) (by decide +kernel)
theorem t_8 : Cond.selects R_Box y_Box_putToWork y_Box_putToWork ∈ TB := TB_mem 8 (by decide +kernel) (by decide +kernel)
theorem t_9 : Cond.selects R_Box y_Box_keepOrThrow y_Box_keepOrThrow ∈ TB := TB_mem 9 (by decide +kernel) (by decide +kernel)
theorem t_10 : Cond.selects R_Box y_Box_closeRelay y_Box_closeRelay ∈ TB := TB_mem 10 (by decide +kernel) (by decide +kernel)
theorem t_11 : Cond.selects R_Box y_Box_load y_Box_load ∈ TB := TB_mem 11 (by decide +kernel) (by decide +kernel)
theorem t_13 : Cond.selects R_Box y_Box_isKnown y_Box_isKnown ∈ TB := TB_mem 13 (by decide +kernel) (by decide +kernel)
theorem t_14 : Cond.selects R_Box y_Box_numberFor y_Box_numberFor ∈ TB := TB_mem 14 (by decide +kernel) (by decide +kernel)
theorem t_16 : Cond.selects R_Box y_Box_countOfState y_Box_countOfState ∈ TB := TB_mem 16 (by decide +kernel) (by decide +kernel)
theorem t_49 : Cond.initialized "java/lang/IllegalArgumentException" ∈ TB := TB_mem 49 (by decide +kernel) (by decide +kernel)
theorem t_50 : Cond.initialized "java/lang/IllegalStateException" ∈ TB := TB_mem 50 (by decide +kernel) (by decide +kernel)
theorem t_52 : Cond.initialized "java/lang/ArithmeticException" ∈ TB := TB_mem 52 (by decide +kernel) (by decide +kernel)
theorem t_53 : Cond.initialized "java/lang/UnsupportedOperationException" ∈ TB := TB_mem 53 (by decide +kernel) (by decide +kernel)
theorem t_54 : Cond.initialized "java/util/NoSuchElementException" ∈ TB := TB_mem 54 (by decide +kernel) (by decide +kernel)
theorem t_55 : Cond.initialized "java/lang/IndexOutOfBoundsException" ∈ TB := TB_mem 55 (by decide +kernel) (by decide +kernel)
theorem t_201 : Cond.fieldLink R_Box 44 "MeterBox" "line" "LMeterBox$Line;" ∈ TB := TB_mem 201 (by decide +kernel) (by decide +kernel)
theorem t_226 : Cond.methodLink R_Box 52 y_Box_requireWithin ∈ TB := TB_mem 226 (by decide +kernel) (by decide +kernel)
theorem t_227 : Cond.static y_Box_requireWithin ∈ TB := TB_mem 227 (by decide +kernel) (by decide +kernel)
theorem t_228 : Cond.code y_Box_requireWithin b_Box_requireWithin 3 none ∈ TB := TB_mem 228 (by decide +kernel) (by decide +kernel)
theorem t_229 : Cond.classLink R_Box 96 "java/lang/IllegalArgumentException" ∈ TB := TB_mem 229 (by decide +kernel) (by decide +kernel)
theorem t_300 : Cond.methodLink R_Box 56 y_Plans_put ∈ TB := TB_mem 300 (by decide +kernel) (by decide +kernel)
theorem t_301 : Cond.instanceMethod y_Plans_put ∈ TB := TB_mem 301 (by decide +kernel) (by decide +kernel)
theorem t_302 : Cond.selects R_Plans y_Plans_put y_Plans_put ∈ TB := TB_mem 302 (by decide +kernel) (by decide +kernel)
theorem t_303 : Cond.code y_Plans_put b_Plans_put 5 none ∈ TB := TB_mem 303 (by decide +kernel) (by decide +kernel)
theorem t_304 : Cond.methodLink R_Box 60 y_Plans_size ∈ TB := TB_mem 304 (by decide +kernel) (by decide +kernel)
theorem t_305 : Cond.instanceMethod y_Plans_size ∈ TB := TB_mem 305 (by decide +kernel) (by decide +kernel)
theorem t_306 : Cond.selects R_Plans y_Plans_size y_Plans_size ∈ TB := TB_mem 306 (by decide +kernel) (by decide +kernel)
theorem t_307 : Cond.code y_Plans_size b_Plans_size 4 (some .int) ∈ TB := TB_mem 307 (by decide +kernel) (by decide +kernel)
theorem t_317 : Cond.constantDouble R_Box 64 (4645744490609377280 : UInt64) ∈ TB := TB_mem 317 (by decide +kernel) (by decide +kernel)
theorem t_318 : Cond.methodLink R_Box 66 y_Box_requireUpTo ∈ TB := TB_mem 318 (by decide +kernel) (by decide +kernel)
theorem t_319 : Cond.static y_Box_requireUpTo ∈ TB := TB_mem 319 (by decide +kernel) (by decide +kernel)
theorem t_320 : Cond.code y_Box_requireUpTo b_Box_requireUpTo 4 none ∈ TB := TB_mem 320 (by decide +kernel) (by decide +kernel)
theorem t_322 : Cond.methodLink R_Box 72 y_Box_requireOn ∈ TB := TB_mem 322 (by decide +kernel) (by decide +kernel)
theorem t_324 : Cond.instanceMethod y_Box_requireOn ∈ TB := TB_mem 324 (by decide +kernel) (by decide +kernel)
theorem t_325 : Cond.code y_Box_requireOn b_Box_requireOn 1 none ∈ TB := TB_mem 325 (by decide +kernel) (by decide +kernel)
theorem t_326 : Cond.classLink R_Box 149 "java/lang/IllegalStateException" ∈ TB := TB_mem 326 (by decide +kernel) (by decide +kernel)
theorem t_342 : Cond.constantDouble R_Box 75 (4643281584563159040 : UInt64) ∈ TB := TB_mem 342 (by decide +kernel) (by decide +kernel)
theorem t_354 : Cond.methodLink R_Box 84 y_Box_passMinute ∈ TB := TB_mem 354 (by decide +kernel) (by decide +kernel)
theorem t_356 : Cond.instanceMethod y_Box_passMinute ∈ TB := TB_mem 356 (by decide +kernel) (by decide +kernel)
theorem t_357 : Cond.code y_Box_passMinute b_Box_passMinute 7 none ∈ TB := TB_mem 357 (by decide +kernel) (by decide +kernel)
theorem t_428 : Cond.classLink R_Box 87 "java/lang/ArithmeticException" ∈ TB := TB_mem 428 (by decide +kernel) (by decide +kernel)
theorem t_453 : Cond.constantLong R_Box 94 (1099511627775 : Int64) ∈ TB := TB_mem 453 (by decide +kernel) (by decide +kernel)
theorem t_455 : Cond.constantLong R_Box 101 (733007751850 : Int64) ∈ TB := TB_mem 455 (by decide +kernel) (by decide +kernel)
theorem t_457 : Cond.methodLink R_Box 105 y_Box_checkOf ∈ TB := TB_mem 457 (by decide +kernel) (by decide +kernel)
theorem t_458 : Cond.static y_Box_checkOf ∈ TB := TB_mem 458 (by decide +kernel) (by decide +kernel)
theorem t_459 : Cond.code y_Box_checkOf b_Box_checkOf 4 (some .int) ∈ TB := TB_mem 459 (by decide +kernel) (by decide +kernel)
theorem t_463 : Cond.classLink R_Box 109 "java/lang/UnsupportedOperationException" ∈ TB := TB_mem 463 (by decide +kernel) (by decide +kernel)
theorem t_479 : Cond.classLink R_Box 118 "java/util/NoSuchElementException" ∈ TB := TB_mem 479 (by decide +kernel) (by decide +kernel)
theorem t_495 : Cond.constant R_Box 123 (65535 : Int32) ∈ TB := TB_mem 495 (by decide +kernel) (by decide +kernel)
theorem t_496 : Cond.methodLink R_Box 124 y_Box_putToWork ∈ TB := TB_mem 496 (by decide +kernel) (by decide +kernel)
theorem t_498 : Cond.instanceMethod y_Box_putToWork ∈ TB := TB_mem 498 (by decide +kernel) (by decide +kernel)
theorem t_499 : Cond.code y_Box_putToWork b_Box_putToWork 3 none ∈ TB := TB_mem 499 (by decide +kernel) (by decide +kernel)
theorem t_504 : Cond.methodLink R_Box 128 y_Box_keepOrThrow ∈ TB := TB_mem 504 (by decide +kernel) (by decide +kernel)
theorem t_506 : Cond.instanceMethod y_Box_keepOrThrow ∈ TB := TB_mem 506 (by decide +kernel) (by decide +kernel)
theorem t_507 : Cond.code y_Box_keepOrThrow b_Box_keepOrThrow 2 (some .int) ∈ TB := TB_mem 507 (by decide +kernel) (by decide +kernel)
theorem t_510 : Cond.methodLink R_Box 136 y_Box_closeRelay ∈ TB := TB_mem 510 (by decide +kernel) (by decide +kernel)
theorem t_512 : Cond.instanceMethod y_Box_closeRelay ∈ TB := TB_mem 512 (by decide +kernel) (by decide +kernel)
theorem t_513 : Cond.code y_Box_closeRelay b_Box_closeRelay 1 none ∈ TB := TB_mem 513 (by decide +kernel) (by decide +kernel)
theorem t_522 : Cond.constantDouble R_Box 144 (13835058055282163712 : UInt64) ∈ TB := TB_mem 522 (by decide +kernel) (by decide +kernel)
theorem t_537 : Cond.methodLink R_Box 146 y_Flash_setCut ∈ TB := TB_mem 537 (by decide +kernel) (by decide +kernel)
theorem t_538 : Cond.instanceMethod y_Flash_setCut ∈ TB := TB_mem 538 (by decide +kernel) (by decide +kernel)
theorem t_539 : Cond.selects R_Flash y_Flash_setCut y_Flash_setCut ∈ TB := TB_mem 539 (by decide +kernel) (by decide +kernel)
theorem t_540 : Cond.code y_Flash_setCut b_Flash_setCut 3 (some .int) ∈ TB := TB_mem 540 (by decide +kernel) (by decide +kernel)
theorem t_549 : Cond.methodLink R_Box 157 y_Line_giveUp ∈ TB := TB_mem 549 (by decide +kernel) (by decide +kernel)
theorem t_550 : Cond.instanceMethod y_Line_giveUp ∈ TB := TB_mem 550 (by decide +kernel) (by decide +kernel)
theorem t_551 : Cond.selects R_Line y_Line_giveUp y_Line_giveUp ∈ TB := TB_mem 551 (by decide +kernel) (by decide +kernel)
theorem t_552 : Cond.code y_Line_giveUp b_Line_giveUp 1 none ∈ TB := TB_mem 552 (by decide +kernel) (by decide +kernel)
theorem t_553 : Cond.methodLink R_Box 160 y_Box_load ∈ TB := TB_mem 553 (by decide +kernel) (by decide +kernel)
theorem t_555 : Cond.instanceMethod y_Box_load ∈ TB := TB_mem 555 (by decide +kernel) (by decide +kernel)
theorem t_556 : Cond.code y_Box_load b_Box_load 2 none ∈ TB := TB_mem 556 (by decide +kernel) (by decide +kernel)
theorem t_570 : Cond.methodLink R_Box 163 y_Flash_goodSlots ∈ TB := TB_mem 570 (by decide +kernel) (by decide +kernel)
theorem t_571 : Cond.instanceMethod y_Flash_goodSlots ∈ TB := TB_mem 571 (by decide +kernel) (by decide +kernel)
theorem t_572 : Cond.selects R_Flash y_Flash_goodSlots y_Flash_goodSlots ∈ TB := TB_mem 572 (by decide +kernel) (by decide +kernel)
theorem t_573 : Cond.code y_Flash_goodSlots b_Flash_goodSlots 3 (some .int) ∈ TB := TB_mem 573 (by decide +kernel) (by decide +kernel)
theorem t_581 : Cond.methodLink R_Box 166 y_Line_endsWith ∈ TB := TB_mem 581 (by decide +kernel) (by decide +kernel)
theorem t_582 : Cond.instanceMethod y_Line_endsWith ∈ TB := TB_mem 582 (by decide +kernel) (by decide +kernel)
theorem t_583 : Cond.selects R_Line y_Line_endsWith y_Line_endsWith ∈ TB := TB_mem 583 (by decide +kernel) (by decide +kernel)
theorem t_584 : Cond.code y_Line_endsWith b_Line_endsWith 2 (some .boolean) ∈ TB := TB_mem 584 (by decide +kernel) (by decide +kernel)
theorem t_589 : Cond.methodLink R_Box 170 y_Line_isLengthRight ∈ TB := TB_mem 589 (by decide +kernel) (by decide +kernel)
theorem t_590 : Cond.instanceMethod y_Line_isLengthRight ∈ TB := TB_mem 590 (by decide +kernel) (by decide +kernel)
theorem t_591 : Cond.selects R_Line y_Line_isLengthRight y_Line_isLengthRight ∈ TB := TB_mem 591 (by decide +kernel) (by decide +kernel)
theorem t_592 : Cond.code y_Line_isLengthRight b_Line_isLengthRight 1 (some .boolean) ∈ TB := TB_mem 592 (by decide +kernel) (by decide +kernel)
theorem t_594 : Cond.methodLink R_Box 176 y_Line_isFcsRight ∈ TB := TB_mem 594 (by decide +kernel) (by decide +kernel)
theorem t_595 : Cond.instanceMethod y_Line_isFcsRight ∈ TB := TB_mem 595 (by decide +kernel) (by decide +kernel)
theorem t_596 : Cond.selects R_Line y_Line_isFcsRight y_Line_isFcsRight ∈ TB := TB_mem 596 (by decide +kernel) (by decide +kernel)
theorem t_597 : Cond.code y_Line_isFcsRight b_Line_isFcsRight 2 (some .boolean) ∈ TB := TB_mem 597 (by decide +kernel) (by decide +kernel)
theorem t_604 : Cond.methodLink R_Box 181 y_Line_command ∈ TB := TB_mem 604 (by decide +kernel) (by decide +kernel)
theorem t_605 : Cond.instanceMethod y_Line_command ∈ TB := TB_mem 605 (by decide +kernel) (by decide +kernel)
theorem t_606 : Cond.selects R_Line y_Line_command y_Line_command ∈ TB := TB_mem 606 (by decide +kernel) (by decide +kernel)
theorem t_607 : Cond.code y_Line_command b_Line_command 1 (some .int) ∈ TB := TB_mem 607 (by decide +kernel) (by decide +kernel)
theorem t_608 : Cond.methodLink R_Box 184 y_Line_argument ∈ TB := TB_mem 608 (by decide +kernel) (by decide +kernel)
theorem t_609 : Cond.instanceMethod y_Line_argument ∈ TB := TB_mem 609 (by decide +kernel) (by decide +kernel)
theorem t_610 : Cond.selects R_Line y_Line_argument y_Line_argument ∈ TB := TB_mem 610 (by decide +kernel) (by decide +kernel)
theorem t_611 : Cond.code y_Line_argument b_Line_argument 1 (some .int) ∈ TB := TB_mem 611 (by decide +kernel) (by decide +kernel)
theorem t_612 : Cond.methodLink R_Box 187 y_Box_isKnown ∈ TB := TB_mem 612 (by decide +kernel) (by decide +kernel)
theorem t_614 : Cond.instanceMethod y_Box_isKnown ∈ TB := TB_mem 614 (by decide +kernel) (by decide +kernel)
theorem t_615 : Cond.code y_Box_isKnown b_Box_isKnown 3 (some .boolean) ∈ TB := TB_mem 615 (by decide +kernel) (by decide +kernel)
theorem t_617 : Cond.methodLink R_Box 193 y_Box_numberFor ∈ TB := TB_mem 617 (by decide +kernel) (by decide +kernel)
theorem t_619 : Cond.instanceMethod y_Box_numberFor ∈ TB := TB_mem 619 (by decide +kernel) (by decide +kernel)
theorem t_620 : Cond.code y_Box_numberFor b_Box_numberFor 3 (some .long) ∈ TB := TB_mem 620 (by decide +kernel) (by decide +kernel)
theorem t_626 : Cond.methodLink R_Box 197 y_Line_answer ∈ TB := TB_mem 626 (by decide +kernel) (by decide +kernel)
theorem t_627 : Cond.instanceMethod y_Line_answer ∈ TB := TB_mem 627 (by decide +kernel) (by decide +kernel)
theorem t_628 : Cond.selects R_Line y_Line_answer y_Line_answer ∈ TB := TB_mem 628 (by decide +kernel) (by decide +kernel)
theorem t_629 : Cond.code y_Line_answer b_Line_answer 5 (some .int) ∈ TB := TB_mem 629 (by decide +kernel) (by decide +kernel)
theorem t_642 : Cond.classLink R_Box 204 "java/lang/IndexOutOfBoundsException" ∈ TB := TB_mem 642 (by decide +kernel) (by decide +kernel)
theorem t_665 : Cond.methodLink R_Box 213 y_Flash_wordAt ∈ TB := TB_mem 665 (by decide +kernel) (by decide +kernel)
theorem t_687 : Cond.methodLink R_Box 220 y_Box_countOfState ∈ TB := TB_mem 687 (by decide +kernel) (by decide +kernel)
theorem t_689 : Cond.instanceMethod y_Box_countOfState ∈ TB := TB_mem 689 (by decide +kernel) (by decide +kernel)
theorem t_690 : Cond.code y_Box_countOfState b_Box_countOfState 2 (some .int) ∈ TB := TB_mem 690 (by decide +kernel) (by decide +kernel)
theorem d_Box_requireWithin_0 : decode b_Box_requireWithin 0 = .ok (.iload_n 0, 1) := by decide +kernel
theorem d_Box_requireWithin_1 : decode b_Box_requireWithin 1 = .ok (.iload_n 1, 1) := by decide +kernel
theorem d_Box_requireWithin_2 : decode b_Box_requireWithin 2 = .ok (.if_icmp .lt 8, 3) := by decide +kernel
theorem d_Box_requireWithin_5 : decode b_Box_requireWithin 5 = .ok (.iload_n 0, 1) := by decide +kernel
theorem d_Box_requireWithin_6 : decode b_Box_requireWithin 6 = .ok (.iload_n 2, 1) := by decide +kernel
theorem d_Box_requireWithin_7 : decode b_Box_requireWithin 7 = .ok (.if_icmp .le 13, 3) := by decide +kernel
theorem d_Box_requireWithin_10 : decode b_Box_requireWithin 10 = .ok (.new 96, 3) := by decide +kernel
theorem d_Box_requireWithin_13 : decode b_Box_requireWithin 13 = .ok (.dup, 1) := by decide +kernel
theorem d_Box_requireWithin_14 : decode b_Box_requireWithin 14 = .ok (.ldc 234, 2) := by decide +kernel
theorem d_Box_requireWithin_16 : decode b_Box_requireWithin 16 = .ok (.invokespecial 100, 3) := by decide +kernel
theorem d_Box_requireWithin_19 : decode b_Box_requireWithin 19 = .ok (.athrow, 1) := by decide +kernel
theorem d_Box_requireWithin_20 : decode b_Box_requireWithin 20 = .ok (.return_, 1) := by decide +kernel
theorem d_Box_plan_0 : decode b_Box_plan 0 = .ok (.iload_n 1, 1) := by decide +kernel
theorem d_Box_plan_1 : decode b_Box_plan 1 = .ok (.iconst 0, 1) := by decide +kernel
theorem d_Box_plan_2 : decode b_Box_plan 2 = .ok (.iconst 1, 1) := by decide +kernel
theorem d_Box_plan_3 : decode b_Box_plan 3 = .ok (.invokestatic 52, 3) := by decide +kernel
theorem d_Box_plan_6 : decode b_Box_plan 6 = .ok (.iload_n 2, 1) := by decide +kernel
theorem d_Box_plan_7 : decode b_Box_plan 7 = .ok (.iconst 0, 1) := by decide +kernel
theorem d_Box_plan_8 : decode b_Box_plan 8 = .ok (.iconst 3, 1) := by decide +kernel
theorem d_Box_plan_9 : decode b_Box_plan 9 = .ok (.invokestatic 52, 3) := by decide +kernel
theorem d_Box_plan_12 : decode b_Box_plan 12 = .ok (.iload_n 3, 1) := by decide +kernel
theorem d_Box_plan_13 : decode b_Box_plan 13 = .ok (.iconst 0, 1) := by decide +kernel
theorem d_Box_plan_14 : decode b_Box_plan 14 = .ok (.sipush 1439, 3) := by decide +kernel
theorem d_Box_plan_17 : decode b_Box_plan 17 = .ok (.invokestatic 52, 3) := by decide +kernel
theorem d_Box_plan_20 : decode b_Box_plan 20 = .ok (.iload 4, 2) := by decide +kernel
theorem d_Box_plan_22 : decode b_Box_plan 22 = .ok (.iconst (-1), 1) := by decide +kernel
theorem d_Box_plan_23 : decode b_Box_plan 23 = .ok (.iconst 2, 1) := by decide +kernel
theorem d_Box_plan_24 : decode b_Box_plan 24 = .ok (.invokestatic 52, 3) := by decide +kernel
theorem d_Box_plan_27 : decode b_Box_plan 27 = .ok (.aload_n 0, 1) := by decide +kernel
theorem d_Box_plan_28 : decode b_Box_plan 28 = .ok (.getfield 16, 3) := by decide +kernel
theorem d_Box_plan_31 : decode b_Box_plan 31 = .ok (.iload_n 1, 1) := by decide +kernel
theorem d_Box_plan_32 : decode b_Box_plan 32 = .ok (.iload_n 2, 1) := by decide +kernel
theorem d_Box_plan_33 : decode b_Box_plan 33 = .ok (.iload_n 3, 1) := by decide +kernel
theorem d_Box_plan_34 : decode b_Box_plan 34 = .ok (.iload 4, 2) := by decide +kernel
theorem d_Box_plan_36 : decode b_Box_plan 36 = .ok (.invokevirtual 56, 3) := by decide +kernel
theorem d_Box_plan_39 : decode b_Box_plan 39 = .ok (.aload_n 0, 1) := by decide +kernel
theorem d_Box_plan_40 : decode b_Box_plan 40 = .ok (.getfield 16, 3) := by decide +kernel
theorem d_Box_plan_43 : decode b_Box_plan 43 = .ok (.iload_n 1, 1) := by decide +kernel
theorem d_Box_plan_44 : decode b_Box_plan 44 = .ok (.invokevirtual 60, 3) := by decide +kernel
theorem d_Box_plan_47 : decode b_Box_plan 47 = .ok (.ireturn, 1) := by decide +kernel
theorem d_Box_requireUpTo_0 : decode b_Box_requireUpTo 0 = .ok (.dload_n 0, 1) := by decide +kernel
theorem d_Box_requireUpTo_1 : decode b_Box_requireUpTo 1 = .ok (.dconst 0, 1) := by decide +kernel
theorem d_Box_requireUpTo_2 : decode b_Box_requireUpTo 2 = .ok (.dcmp .l, 1) := by decide +kernel
theorem d_Box_requireUpTo_3 : decode b_Box_requireUpTo 3 = .ok (.ifCond .lt 9, 3) := by decide +kernel
theorem d_Box_requireUpTo_6 : decode b_Box_requireUpTo 6 = .ok (.dload_n 0, 1) := by decide +kernel
theorem d_Box_requireUpTo_7 : decode b_Box_requireUpTo 7 = .ok (.dload_n 2, 1) := by decide +kernel
theorem d_Box_requireUpTo_8 : decode b_Box_requireUpTo 8 = .ok (.dcmp .g, 1) := by decide +kernel
theorem d_Box_requireUpTo_9 : decode b_Box_requireUpTo 9 = .ok (.ifCond .le 13, 3) := by decide +kernel
theorem d_Box_requireUpTo_12 : decode b_Box_requireUpTo 12 = .ok (.new 96, 3) := by decide +kernel
theorem d_Box_requireUpTo_15 : decode b_Box_requireUpTo 15 = .ok (.dup, 1) := by decide +kernel
theorem d_Box_requireUpTo_16 : decode b_Box_requireUpTo 16 = .ok (.ldc 234, 2) := by decide +kernel
theorem d_Box_requireUpTo_18 : decode b_Box_requireUpTo 18 = .ok (.invokespecial 100, 3) := by decide +kernel
theorem d_Box_requireUpTo_21 : decode b_Box_requireUpTo 21 = .ok (.athrow, 1) := by decide +kernel
theorem d_Box_requireUpTo_22 : decode b_Box_requireUpTo 22 = .ok (.return_, 1) := by decide +kernel
theorem d_Box_requireOn_0 : decode b_Box_requireOn 0 = .ok (.aload_n 0, 1) := by decide +kernel
theorem d_Box_requireOn_1 : decode b_Box_requireOn 1 = .ok (.getfield 48, 3) := by decide +kernel
theorem d_Box_requireOn_4 : decode b_Box_requireOn 4 = .ok (.ifCond .ne 13, 3) := by decide +kernel
theorem d_Box_requireOn_7 : decode b_Box_requireOn 7 = .ok (.new 149, 3) := by decide +kernel
theorem d_Box_requireOn_10 : decode b_Box_requireOn 10 = .ok (.dup, 1) := by decide +kernel
theorem d_Box_requireOn_11 : decode b_Box_requireOn 11 = .ok (.ldc 236, 2) := by decide +kernel
theorem d_Box_requireOn_13 : decode b_Box_requireOn 13 = .ok (.invokespecial 153, 3) := by decide +kernel
theorem d_Box_requireOn_16 : decode b_Box_requireOn 16 = .ok (.athrow, 1) := by decide +kernel
theorem d_Box_requireOn_17 : decode b_Box_requireOn 17 = .ok (.return_, 1) := by decide +kernel
theorem d_Box_use_0 : decode b_Box_use 0 = .ok (.dload_n 1, 1) := by decide +kernel
theorem d_Box_use_1 : decode b_Box_use 1 = .ok (.ldc2_w 64, 3) := by decide +kernel
theorem d_Box_use_4 : decode b_Box_use 4 = .ok (.invokestatic 66, 3) := by decide +kernel
theorem d_Box_use_7 : decode b_Box_use 7 = .ok (.dload_n 3, 1) := by decide +kernel
theorem d_Box_use_8 : decode b_Box_use 8 = .ok (.ldc2_w 70, 3) := by decide +kernel
theorem d_Box_use_11 : decode b_Box_use 11 = .ok (.invokestatic 66, 3) := by decide +kernel
theorem d_Box_use_14 : decode b_Box_use 14 = .ok (.iload 5, 2) := by decide +kernel
theorem d_Box_use_16 : decode b_Box_use 16 = .ok (.iconst 1, 1) := by decide +kernel
theorem d_Box_use_17 : decode b_Box_use 17 = .ok (.sipush 300, 3) := by decide +kernel
theorem d_Box_use_20 : decode b_Box_use 20 = .ok (.invokestatic 52, 3) := by decide +kernel
theorem d_Box_use_23 : decode b_Box_use 23 = .ok (.aload_n 0, 1) := by decide +kernel
theorem d_Box_use_24 : decode b_Box_use 24 = .ok (.invokevirtual 72, 3) := by decide +kernel
theorem d_Box_use_27 : decode b_Box_use 27 = .ok (.dload_n 1, 1) := by decide +kernel
theorem d_Box_use_28 : decode b_Box_use 28 = .ok (.ldc2_w 75, 3) := by decide +kernel
theorem d_Box_use_31 : decode b_Box_use 31 = .ok (.dcmp .l, 1) := by decide +kernel
theorem d_Box_use_32 : decode b_Box_use 32 = .ok (.ifCond .le 8, 3) := by decide +kernel
theorem d_Box_use_35 : decode b_Box_use 35 = .ok (.aload_n 0, 1) := by decide +kernel
theorem d_Box_use_36 : decode b_Box_use 36 = .ok (.iconst 2, 1) := by decide +kernel
theorem d_Box_use_37 : decode b_Box_use 37 = .ok (.invokevirtual 77, 3) := by decide +kernel
theorem d_Box_use_40 : decode b_Box_use 40 = .ok (.iconst 0, 1) := by decide +kernel
theorem d_Box_use_41 : decode b_Box_use 41 = .ok (.istore 6, 2) := by decide +kernel
theorem d_Box_use_43 : decode b_Box_use 43 = .ok (.iconst 0, 1) := by decide +kernel
theorem d_Box_use_44 : decode b_Box_use 44 = .ok (.istore 7, 2) := by decide +kernel
theorem d_Box_use_46 : decode b_Box_use 46 = .ok (.iload 7, 2) := by decide +kernel
theorem d_Box_use_48 : decode b_Box_use 48 = .ok (.iload 5, 2) := by decide +kernel
theorem d_Box_use_50 : decode b_Box_use 50 = .ok (.if_icmp .ge 45, 3) := by decide +kernel
theorem d_Box_use_53 : decode b_Box_use 53 = .ok (.aload_n 0, 1) := by decide +kernel
theorem d_Box_use_54 : decode b_Box_use 54 = .ok (.getfield 23, 3) := by decide +kernel
theorem d_Box_use_57 : decode b_Box_use 57 = .ok (.getfield 81, 3) := by decide +kernel
theorem d_Box_use_60 : decode b_Box_use 60 = .ok (.ifCond .ne 6, 3) := by decide +kernel
theorem d_Box_use_63 : decode b_Box_use 63 = .ok (.iinc 6 1, 3) := by decide +kernel
theorem d_Box_use_66 : decode b_Box_use 66 = .ok (.aload_n 0, 1) := by decide +kernel
theorem d_Box_use_67 : decode b_Box_use 67 = .ok (.dload_n 1, 1) := by decide +kernel
theorem d_Box_use_68 : decode b_Box_use 68 = .ok (.dload_n 3, 1) := by decide +kernel
theorem d_Box_use_69 : decode b_Box_use 69 = .ok (.invokevirtual 84, 3) := by decide +kernel
theorem d_Box_use_72 : decode b_Box_use 72 = .ok (.aload_n 0, 1) := by decide +kernel
theorem d_Box_use_73 : decode b_Box_use 73 = .ok (.getfield 48, 3) := by decide +kernel
theorem d_Box_use_76 : decode b_Box_use 76 = .ok (.ifCond .ne 13, 3) := by decide +kernel
theorem d_Box_use_79 : decode b_Box_use 79 = .ok (.new 87, 3) := by decide +kernel
theorem d_Box_use_82 : decode b_Box_use 82 = .ok (.dup, 1) := by decide +kernel
theorem d_Box_use_83 : decode b_Box_use 83 = .ok (.ldc 89, 2) := by decide +kernel
theorem d_Box_use_85 : decode b_Box_use 85 = .ok (.invokespecial 91, 3) := by decide +kernel
theorem d_Box_use_88 : decode b_Box_use 88 = .ok (.athrow, 1) := by decide +kernel
theorem d_Box_use_89 : decode b_Box_use 89 = .ok (.iinc 7 1, 3) := by decide +kernel
theorem d_Box_use_92 : decode b_Box_use 92 = .ok (.goto (-46), 3) := by decide +kernel
theorem d_Box_use_95 : decode b_Box_use 95 = .ok (.iload 6, 2) := by decide +kernel
theorem d_Box_use_97 : decode b_Box_use 97 = .ok (.ireturn, 1) := by decide +kernel
theorem d_Box_keepOrThrow_0 : decode b_Box_keepOrThrow 0 = .ok (.aload_n 0, 1) := by decide +kernel
theorem d_Box_keepOrThrow_1 : decode b_Box_keepOrThrow 1 = .ok (.invokevirtual 248, 3) := by decide +kernel
theorem d_Box_keepOrThrow_4 : decode b_Box_keepOrThrow 4 = .ok (.istore_n 1, 1) := by decide +kernel
theorem d_Box_keepOrThrow_5 : decode b_Box_keepOrThrow 5 = .ok (.iload_n 1, 1) := by decide +kernel
theorem d_Box_keepOrThrow_6 : decode b_Box_keepOrThrow 6 = .ok (.ifCond .ne 14, 3) := by decide +kernel
theorem d_Box_keepOrThrow_9 : decode b_Box_keepOrThrow 9 = .ok (.new 109, 3) := by decide +kernel
theorem d_Box_keepOrThrow_12 : decode b_Box_keepOrThrow 12 = .ok (.dup, 1) := by decide +kernel
theorem d_Box_keepOrThrow_13 : decode b_Box_keepOrThrow 13 = .ok (.ldc_w 281, 3) := by decide +kernel
theorem d_Box_keepOrThrow_16 : decode b_Box_keepOrThrow 16 = .ok (.invokespecial 113, 3) := by decide +kernel
theorem d_Box_keepOrThrow_19 : decode b_Box_keepOrThrow 19 = .ok (.athrow, 1) := by decide +kernel
theorem d_Box_keepOrThrow_20 : decode b_Box_keepOrThrow 20 = .ok (.iload_n 1, 1) := by decide +kernel
theorem d_Box_keepOrThrow_21 : decode b_Box_keepOrThrow 21 = .ok (.iconst (-1), 1) := by decide +kernel
theorem d_Box_keepOrThrow_22 : decode b_Box_keepOrThrow 22 = .ok (.if_icmp .ne 14, 3) := by decide +kernel
theorem d_Box_keepOrThrow_25 : decode b_Box_keepOrThrow 25 = .ok (.new 87, 3) := by decide +kernel
theorem d_Box_keepOrThrow_28 : decode b_Box_keepOrThrow 28 = .ok (.dup, 1) := by decide +kernel
theorem d_Box_keepOrThrow_29 : decode b_Box_keepOrThrow 29 = .ok (.ldc_w 283, 3) := by decide +kernel
theorem d_Box_keepOrThrow_32 : decode b_Box_keepOrThrow 32 = .ok (.invokespecial 91, 3) := by decide +kernel
theorem d_Box_keepOrThrow_35 : decode b_Box_keepOrThrow 35 = .ok (.athrow, 1) := by decide +kernel
theorem d_Box_keepOrThrow_36 : decode b_Box_keepOrThrow 36 = .ok (.iload_n 1, 1) := by decide +kernel
theorem d_Box_keepOrThrow_37 : decode b_Box_keepOrThrow 37 = .ok (.ireturn, 1) := by decide +kernel
theorem d_Box_token_0 : decode b_Box_token 0 = .ok (.lload_n 1, 1) := by decide +kernel
theorem d_Box_token_1 : decode b_Box_token 1 = .ok (.lconst 0, 1) := by decide +kernel
theorem d_Box_token_2 : decode b_Box_token 2 = .ok (.lcmp, 1) := by decide +kernel
theorem d_Box_token_3 : decode b_Box_token 3 = .ok (.ifCond .lt 11, 3) := by decide +kernel
theorem d_Box_token_6 : decode b_Box_token 6 = .ok (.lload_n 1, 1) := by decide +kernel
theorem d_Box_token_7 : decode b_Box_token 7 = .ok (.ldc2_w 94, 3) := by decide +kernel
theorem d_Box_token_10 : decode b_Box_token 10 = .ok (.lcmp, 1) := by decide +kernel
theorem d_Box_token_11 : decode b_Box_token 11 = .ok (.ifCond .le 13, 3) := by decide +kernel
theorem d_Box_token_14 : decode b_Box_token 14 = .ok (.new 96, 3) := by decide +kernel
theorem d_Box_token_17 : decode b_Box_token 17 = .ok (.dup, 1) := by decide +kernel
theorem d_Box_token_18 : decode b_Box_token 18 = .ok (.ldc 98, 2) := by decide +kernel
theorem d_Box_token_20 : decode b_Box_token 20 = .ok (.invokespecial 100, 3) := by decide +kernel
theorem d_Box_token_23 : decode b_Box_token 23 = .ok (.athrow, 1) := by decide +kernel
theorem d_Box_token_24 : decode b_Box_token 24 = .ok (.aload_n 0, 1) := by decide +kernel
theorem d_Box_token_25 : decode b_Box_token 25 = .ok (.invokevirtual 72, 3) := by decide +kernel
theorem d_Box_token_28 : decode b_Box_token 28 = .ok (.lload_n 1, 1) := by decide +kernel
theorem d_Box_token_29 : decode b_Box_token 29 = .ok (.ldc2_w 101, 3) := by decide +kernel
theorem d_Box_token_32 : decode b_Box_token 32 = .ok (.lxor, 1) := by decide +kernel
theorem d_Box_token_33 : decode b_Box_token 33 = .ok (.lstore_n 3, 1) := by decide +kernel
theorem d_Box_token_34 : decode b_Box_token 34 = .ok (.lload_n 3, 1) := by decide +kernel
theorem d_Box_token_35 : decode b_Box_token 35 = .ok (.ldc2_w 103, 3) := by decide +kernel
theorem d_Box_token_38 : decode b_Box_token 38 = .ok (.ldiv, 1) := by decide +kernel
theorem d_Box_token_39 : decode b_Box_token 39 = .ok (.lstore 5, 2) := by decide +kernel
theorem d_Box_token_41 : decode b_Box_token 41 = .ok (.lload 5, 2) := by decide +kernel
theorem d_Box_token_43 : decode b_Box_token 43 = .ok (.bipush 30, 2) := by decide +kernel
theorem d_Box_token_45 : decode b_Box_token 45 = .ok (.lshr, 1) := by decide +kernel
theorem d_Box_token_46 : decode b_Box_token 46 = .ok (.l2i, 1) := by decide +kernel
theorem d_Box_token_47 : decode b_Box_token 47 = .ok (.istore 7, 2) := by decide +kernel
theorem d_Box_token_49 : decode b_Box_token 49 = .ok (.lload 5, 2) := by decide +kernel
theorem d_Box_token_51 : decode b_Box_token 51 = .ok (.bipush 16, 2) := by decide +kernel
theorem d_Box_token_53 : decode b_Box_token 53 = .ok (.lshr, 1) := by decide +kernel
theorem d_Box_token_54 : decode b_Box_token 54 = .ok (.l2i, 1) := by decide +kernel
theorem d_Box_token_55 : decode b_Box_token 55 = .ok (.sipush 16383, 3) := by decide +kernel
theorem d_Box_token_58 : decode b_Box_token 58 = .ok (.iand, 1) := by decide +kernel
theorem d_Box_token_59 : decode b_Box_token 59 = .ok (.istore 8, 2) := by decide +kernel
theorem d_Box_token_61 : decode b_Box_token 61 = .ok (.lload_n 3, 1) := by decide +kernel
theorem d_Box_token_62 : decode b_Box_token 62 = .ok (.ldc2_w 103, 3) := by decide +kernel
theorem d_Box_token_65 : decode b_Box_token 65 = .ok (.lrem, 1) := by decide +kernel
theorem d_Box_token_66 : decode b_Box_token 66 = .ok (.lload 5, 2) := by decide +kernel
theorem d_Box_token_68 : decode b_Box_token 68 = .ok (.invokestatic 105, 3) := by decide +kernel
theorem d_Box_token_71 : decode b_Box_token 71 = .ok (.i2l, 1) := by decide +kernel
theorem d_Box_token_72 : decode b_Box_token 72 = .ok (.lcmp, 1) := by decide +kernel
theorem d_Box_token_73 : decode b_Box_token 73 = .ok (.ifCond .ne 9, 3) := by decide +kernel
theorem d_Box_token_76 : decode b_Box_token 76 = .ok (.iload 7, 2) := by decide +kernel
theorem d_Box_token_78 : decode b_Box_token 78 = .ok (.iconst 2, 1) := by decide +kernel
theorem d_Box_token_79 : decode b_Box_token 79 = .ok (.if_icmp .le 18, 3) := by decide +kernel
theorem d_Box_token_82 : decode b_Box_token 82 = .ok (.aload_n 0, 1) := by decide +kernel
theorem d_Box_token_83 : decode b_Box_token 83 = .ok (.iconst 4, 1) := by decide +kernel
theorem d_Box_token_84 : decode b_Box_token 84 = .ok (.invokevirtual 77, 3) := by decide +kernel
theorem d_Box_token_87 : decode b_Box_token 87 = .ok (.new 109, 3) := by decide +kernel
theorem d_Box_token_90 : decode b_Box_token 90 = .ok (.dup, 1) := by decide +kernel
theorem d_Box_token_91 : decode b_Box_token 91 = .ok (.ldc 111, 2) := by decide +kernel
theorem d_Box_token_93 : decode b_Box_token 93 = .ok (.invokespecial 113, 3) := by decide +kernel
theorem d_Box_token_96 : decode b_Box_token 96 = .ok (.athrow, 1) := by decide +kernel
theorem d_Box_token_97 : decode b_Box_token 97 = .ok (.iload 8, 2) := by decide +kernel
theorem d_Box_token_99 : decode b_Box_token 99 = .ok (.aload_n 0, 1) := by decide +kernel
theorem d_Box_token_100 : decode b_Box_token 100 = .ok (.getfield 23, 3) := by decide +kernel
theorem d_Box_token_103 : decode b_Box_token 103 = .ok (.getfield 114, 3) := by decide +kernel
theorem d_Box_token_106 : decode b_Box_token 106 = .ok (.if_icmp .gt 13, 3) := by decide +kernel
theorem d_Box_token_109 : decode b_Box_token 109 = .ok (.new 118, 3) := by decide +kernel
theorem d_Box_token_112 : decode b_Box_token 112 = .ok (.dup, 1) := by decide +kernel
theorem d_Box_token_113 : decode b_Box_token 113 = .ok (.ldc 120, 2) := by decide +kernel
theorem d_Box_token_115 : decode b_Box_token 115 = .ok (.invokespecial 122, 3) := by decide +kernel
theorem d_Box_token_118 : decode b_Box_token 118 = .ok (.athrow, 1) := by decide +kernel
theorem d_Box_token_119 : decode b_Box_token 119 = .ok (.aload_n 0, 1) := by decide +kernel
theorem d_Box_token_120 : decode b_Box_token 120 = .ok (.iload 7, 2) := by decide +kernel
theorem d_Box_token_122 : decode b_Box_token 122 = .ok (.lload 5, 2) := by decide +kernel
theorem d_Box_token_124 : decode b_Box_token 124 = .ok (.l2i, 1) := by decide +kernel
theorem d_Box_token_125 : decode b_Box_token 125 = .ok (.ldc 123, 2) := by decide +kernel
theorem d_Box_token_127 : decode b_Box_token 127 = .ok (.iand, 1) := by decide +kernel
theorem d_Box_token_128 : decode b_Box_token 128 = .ok (.invokevirtual 124, 3) := by decide +kernel
theorem d_Box_token_131 : decode b_Box_token 131 = .ok (.aload_n 0, 1) := by decide +kernel
theorem d_Box_token_132 : decode b_Box_token 132 = .ok (.getfield 23, 3) := by decide +kernel
theorem d_Box_token_135 : decode b_Box_token 135 = .ok (.iload 8, 2) := by decide +kernel
theorem d_Box_token_137 : decode b_Box_token 137 = .ok (.putfield 114, 3) := by decide +kernel
theorem d_Box_token_140 : decode b_Box_token 140 = .ok (.aload_n 0, 1) := by decide +kernel
theorem d_Box_token_141 : decode b_Box_token 141 = .ok (.invokevirtual 128, 3) := by decide +kernel
theorem d_Box_token_144 : decode b_Box_token 144 = .ok (.pop, 1) := by decide +kernel
theorem d_Box_token_145 : decode b_Box_token 145 = .ok (.aload_n 0, 1) := by decide +kernel
theorem d_Box_token_146 : decode b_Box_token 146 = .ok (.getfield 23, 3) := by decide +kernel
theorem d_Box_token_149 : decode b_Box_token 149 = .ok (.getfield 132, 3) := by decide +kernel
theorem d_Box_token_152 : decode b_Box_token 152 = .ok (.dconst 0, 1) := by decide +kernel
theorem d_Box_token_153 : decode b_Box_token 153 = .ok (.dcmp .l, 1) := by decide +kernel
theorem d_Box_token_154 : decode b_Box_token 154 = .ok (.ifCond .lt 7, 3) := by decide +kernel
theorem d_Box_token_157 : decode b_Box_token 157 = .ok (.aload_n 0, 1) := by decide +kernel
theorem d_Box_token_158 : decode b_Box_token 158 = .ok (.invokevirtual 136, 3) := by decide +kernel
theorem d_Box_token_161 : decode b_Box_token 161 = .ok (.iload 7, 2) := by decide +kernel
theorem d_Box_token_163 : decode b_Box_token 163 = .ok (.ireturn, 1) := by decide +kernel
theorem d_Box_emergency_0 : decode b_Box_emergency 0 = .ok (.aload_n 0, 1) := by decide +kernel
theorem d_Box_emergency_1 : decode b_Box_emergency 1 = .ok (.invokevirtual 72, 3) := by decide +kernel
theorem d_Box_emergency_4 : decode b_Box_emergency 4 = .ok (.aload_n 0, 1) := by decide +kernel
theorem d_Box_emergency_5 : decode b_Box_emergency 5 = .ok (.getfield 23, 3) := by decide +kernel
theorem d_Box_emergency_8 : decode b_Box_emergency 8 = .ok (.getfield 139, 3) := by decide +kernel
theorem d_Box_emergency_11 : decode b_Box_emergency 11 = .ok (.ifCond .ne 15, 3) := by decide +kernel
theorem d_Box_emergency_14 : decode b_Box_emergency 14 = .ok (.aload_n 0, 1) := by decide +kernel
theorem d_Box_emergency_15 : decode b_Box_emergency 15 = .ok (.getfield 23, 3) := by decide +kernel
theorem d_Box_emergency_18 : decode b_Box_emergency 18 = .ok (.getfield 132, 3) := by decide +kernel
theorem d_Box_emergency_21 : decode b_Box_emergency 21 = .ok (.dconst 0, 1) := by decide +kernel
theorem d_Box_emergency_22 : decode b_Box_emergency 22 = .ok (.dcmp .l, 1) := by decide +kernel
theorem d_Box_emergency_23 : decode b_Box_emergency 23 = .ok (.ifCond .lt 13, 3) := by decide +kernel
theorem d_Box_emergency_26 : decode b_Box_emergency 26 = .ok (.new 109, 3) := by decide +kernel
theorem d_Box_emergency_29 : decode b_Box_emergency 29 = .ok (.dup, 1) := by decide +kernel
theorem d_Box_emergency_30 : decode b_Box_emergency 30 = .ok (.ldc 142, 2) := by decide +kernel
theorem d_Box_emergency_32 : decode b_Box_emergency 32 = .ok (.invokespecial 113, 3) := by decide +kernel
theorem d_Box_emergency_35 : decode b_Box_emergency 35 = .ok (.athrow, 1) := by decide +kernel
theorem d_Box_emergency_36 : decode b_Box_emergency 36 = .ok (.aload_n 0, 1) := by decide +kernel
theorem d_Box_emergency_37 : decode b_Box_emergency 37 = .ok (.getfield 23, 3) := by decide +kernel
theorem d_Box_emergency_40 : decode b_Box_emergency 40 = .ok (.iconst 1, 1) := by decide +kernel
theorem d_Box_emergency_41 : decode b_Box_emergency 41 = .ok (.putfield 139, 3) := by decide +kernel
theorem d_Box_emergency_44 : decode b_Box_emergency 44 = .ok (.aload_n 0, 1) := by decide +kernel
theorem d_Box_emergency_45 : decode b_Box_emergency 45 = .ok (.getfield 23, 3) := by decide +kernel
theorem d_Box_emergency_48 : decode b_Box_emergency 48 = .ok (.getfield 132, 3) := by decide +kernel
theorem d_Box_emergency_51 : decode b_Box_emergency 51 = .ok (.ldc2_w 144, 3) := by decide +kernel
theorem d_Box_emergency_54 : decode b_Box_emergency 54 = .ok (.dcmp .l, 1) := by decide +kernel
theorem d_Box_emergency_55 : decode b_Box_emergency 55 = .ok (.ifCond .lt 7, 3) := by decide +kernel
theorem d_Box_emergency_58 : decode b_Box_emergency 58 = .ok (.aload_n 0, 1) := by decide +kernel
theorem d_Box_emergency_59 : decode b_Box_emergency 59 = .ok (.invokevirtual 136, 3) := by decide +kernel
theorem d_Box_emergency_62 : decode b_Box_emergency 62 = .ok (.aload_n 0, 1) := by decide +kernel
theorem d_Box_emergency_63 : decode b_Box_emergency 63 = .ok (.getfield 23, 3) := by decide +kernel
theorem d_Box_emergency_66 : decode b_Box_emergency 66 = .ok (.getfield 81, 3) := by decide +kernel
theorem d_Box_emergency_69 : decode b_Box_emergency 69 = .ok (.ifCond .eq 7, 3) := by decide +kernel
theorem d_Box_emergency_72 : decode b_Box_emergency 72 = .ok (.iconst 0, 1) := by decide +kernel
theorem d_Box_emergency_73 : decode b_Box_emergency 73 = .ok (.goto 4, 3) := by decide +kernel
theorem d_Box_emergency_76 : decode b_Box_emergency 76 = .ok (.iconst 1, 1) := by decide +kernel
theorem d_Box_emergency_77 : decode b_Box_emergency 77 = .ok (.ireturn, 1) := by decide +kernel
theorem d_Box_save_0 : decode b_Box_save 0 = .ok (.aload_n 0, 1) := by decide +kernel
theorem d_Box_save_1 : decode b_Box_save 1 = .ok (.invokevirtual 72, 3) := by decide +kernel
theorem d_Box_save_4 : decode b_Box_save 4 = .ok (.aload_n 0, 1) := by decide +kernel
theorem d_Box_save_5 : decode b_Box_save 5 = .ok (.invokevirtual 128, 3) := by decide +kernel
theorem d_Box_save_8 : decode b_Box_save 8 = .ok (.ireturn, 1) := by decide +kernel
theorem d_Box_cut_0 : decode b_Box_cut 0 = .ok (.iload_n 1, 1) := by decide +kernel
theorem d_Box_cut_1 : decode b_Box_cut 1 = .ok (.iconst 0, 1) := by decide +kernel
theorem d_Box_cut_2 : decode b_Box_cut 2 = .ok (.iconst 5, 1) := by decide +kernel
theorem d_Box_cut_3 : decode b_Box_cut 3 = .ok (.invokestatic 52, 3) := by decide +kernel
theorem d_Box_cut_6 : decode b_Box_cut 6 = .ok (.aload_n 0, 1) := by decide +kernel
theorem d_Box_cut_7 : decode b_Box_cut 7 = .ok (.getfield 37, 3) := by decide +kernel
theorem d_Box_cut_10 : decode b_Box_cut 10 = .ok (.iload_n 1, 1) := by decide +kernel
theorem d_Box_cut_11 : decode b_Box_cut 11 = .ok (.invokevirtual 146, 3) := by decide +kernel
theorem d_Box_cut_14 : decode b_Box_cut 14 = .ok (.ireturn, 1) := by decide +kernel
theorem d_Box_power_0 : decode b_Box_power 0 = .ok (.aload_n 0, 1) := by decide +kernel
theorem d_Box_power_1 : decode b_Box_power 1 = .ok (.getfield 48, 3) := by decide +kernel
theorem d_Box_power_4 : decode b_Box_power 4 = .ok (.iload_n 1, 1) := by decide +kernel
theorem d_Box_power_5 : decode b_Box_power 5 = .ok (.if_icmp .ne 13, 3) := by decide +kernel
theorem d_Box_power_8 : decode b_Box_power 8 = .ok (.new 149, 3) := by decide +kernel
theorem d_Box_power_11 : decode b_Box_power 11 = .ok (.dup, 1) := by decide +kernel
theorem d_Box_power_12 : decode b_Box_power 12 = .ok (.ldc 151, 2) := by decide +kernel
theorem d_Box_power_14 : decode b_Box_power 14 = .ok (.invokespecial 153, 3) := by decide +kernel
theorem d_Box_power_17 : decode b_Box_power 17 = .ok (.athrow, 1) := by decide +kernel
theorem d_Box_power_18 : decode b_Box_power 18 = .ok (.aload_n 0, 1) := by decide +kernel
theorem d_Box_power_19 : decode b_Box_power 19 = .ok (.iload_n 1, 1) := by decide +kernel
theorem d_Box_power_20 : decode b_Box_power 20 = .ok (.putfield 48, 3) := by decide +kernel
theorem d_Box_power_23 : decode b_Box_power 23 = .ok (.aload_n 0, 1) := by decide +kernel
theorem d_Box_power_24 : decode b_Box_power 24 = .ok (.getfield 30, 3) := by decide +kernel
theorem d_Box_power_27 : decode b_Box_power 27 = .ok (.invokevirtual 154, 3) := by decide +kernel
theorem d_Box_power_30 : decode b_Box_power 30 = .ok (.aload_n 0, 1) := by decide +kernel
theorem d_Box_power_31 : decode b_Box_power 31 = .ok (.getfield 44, 3) := by decide +kernel
theorem d_Box_power_34 : decode b_Box_power 34 = .ok (.invokevirtual 157, 3) := by decide +kernel
theorem d_Box_power_37 : decode b_Box_power 37 = .ok (.iload_n 1, 1) := by decide +kernel
theorem d_Box_power_38 : decode b_Box_power 38 = .ok (.ifCond .ne 5, 3) := by decide +kernel
theorem d_Box_power_41 : decode b_Box_power 41 = .ok (.iconst (-1), 1) := by decide +kernel
theorem d_Box_power_42 : decode b_Box_power 42 = .ok (.ireturn, 1) := by decide +kernel
theorem d_Box_power_43 : decode b_Box_power 43 = .ok (.aload_n 0, 1) := by decide +kernel
theorem d_Box_power_44 : decode b_Box_power 44 = .ok (.invokevirtual 160, 3) := by decide +kernel
theorem d_Box_power_47 : decode b_Box_power 47 = .ok (.aload_n 0, 1) := by decide +kernel
theorem d_Box_power_48 : decode b_Box_power 48 = .ok (.getfield 37, 3) := by decide +kernel
theorem d_Box_power_51 : decode b_Box_power 51 = .ok (.invokevirtual 163, 3) := by decide +kernel
theorem d_Box_power_54 : decode b_Box_power 54 = .ok (.ireturn, 1) := by decide +kernel
theorem d_Box_request_0 : decode b_Box_request 0 = .ok (.iload_n 1, 1) := by decide +kernel
theorem d_Box_request_1 : decode b_Box_request 1 = .ok (.iconst 0, 1) := by decide +kernel
theorem d_Box_request_2 : decode b_Box_request 2 = .ok (.sipush 255, 3) := by decide +kernel
theorem d_Box_request_5 : decode b_Box_request 5 = .ok (.invokestatic 52, 3) := by decide +kernel
theorem d_Box_request_8 : decode b_Box_request 8 = .ok (.aload_n 0, 1) := by decide +kernel
theorem d_Box_request_9 : decode b_Box_request 9 = .ok (.invokevirtual 72, 3) := by decide +kernel
theorem d_Box_request_12 : decode b_Box_request 12 = .ok (.aload_n 0, 1) := by decide +kernel
theorem d_Box_request_13 : decode b_Box_request 13 = .ok (.getfield 44, 3) := by decide +kernel
theorem d_Box_request_16 : decode b_Box_request 16 = .ok (.iload_n 1, 1) := by decide +kernel
theorem d_Box_request_17 : decode b_Box_request 17 = .ok (.invokevirtual 166, 3) := by decide +kernel
theorem d_Box_request_20 : decode b_Box_request 20 = .ok (.ifCond .ne 5, 3) := by decide +kernel
theorem d_Box_request_23 : decode b_Box_request 23 = .ok (.iconst 0, 1) := by decide +kernel
theorem d_Box_request_24 : decode b_Box_request 24 = .ok (.ireturn, 1) := by decide +kernel
theorem d_Box_request_25 : decode b_Box_request 25 = .ok (.aload_n 0, 1) := by decide +kernel
theorem d_Box_request_26 : decode b_Box_request 26 = .ok (.getfield 44, 3) := by decide +kernel
theorem d_Box_request_29 : decode b_Box_request 29 = .ok (.invokevirtual 170, 3) := by decide +kernel
theorem d_Box_request_32 : decode b_Box_request 32 = .ok (.ifCond .ne 13, 3) := by decide +kernel
theorem d_Box_request_35 : decode b_Box_request 35 = .ok (.new 149, 3) := by decide +kernel
theorem d_Box_request_38 : decode b_Box_request 38 = .ok (.dup, 1) := by decide +kernel
theorem d_Box_request_39 : decode b_Box_request 39 = .ok (.ldc 174, 2) := by decide +kernel
theorem d_Box_request_41 : decode b_Box_request 41 = .ok (.invokespecial 153, 3) := by decide +kernel
theorem d_Box_request_44 : decode b_Box_request 44 = .ok (.athrow, 1) := by decide +kernel
theorem d_Box_request_45 : decode b_Box_request 45 = .ok (.aload_n 0, 1) := by decide +kernel
theorem d_Box_request_46 : decode b_Box_request 46 = .ok (.getfield 44, 3) := by decide +kernel
theorem d_Box_request_49 : decode b_Box_request 49 = .ok (.invokevirtual 176, 3) := by decide +kernel
theorem d_Box_request_52 : decode b_Box_request 52 = .ok (.ifCond .ne 13, 3) := by decide +kernel
theorem d_Box_request_55 : decode b_Box_request 55 = .ok (.new 87, 3) := by decide +kernel
theorem d_Box_request_58 : decode b_Box_request 58 = .ok (.dup, 1) := by decide +kernel
theorem d_Box_request_59 : decode b_Box_request 59 = .ok (.ldc 179, 2) := by decide +kernel
theorem d_Box_request_61 : decode b_Box_request 61 = .ok (.invokespecial 91, 3) := by decide +kernel
theorem d_Box_request_64 : decode b_Box_request 64 = .ok (.athrow, 1) := by decide +kernel
theorem d_Box_request_65 : decode b_Box_request 65 = .ok (.aload_n 0, 1) := by decide +kernel
theorem d_Box_request_66 : decode b_Box_request 66 = .ok (.getfield 44, 3) := by decide +kernel
theorem d_Box_request_69 : decode b_Box_request 69 = .ok (.invokevirtual 181, 3) := by decide +kernel
theorem d_Box_request_72 : decode b_Box_request 72 = .ok (.istore_n 2, 1) := by decide +kernel
theorem d_Box_request_73 : decode b_Box_request 73 = .ok (.aload_n 0, 1) := by decide +kernel
theorem d_Box_request_74 : decode b_Box_request 74 = .ok (.getfield 44, 3) := by decide +kernel
theorem d_Box_request_77 : decode b_Box_request 77 = .ok (.invokevirtual 184, 3) := by decide +kernel
theorem d_Box_request_80 : decode b_Box_request 80 = .ok (.istore_n 3, 1) := by decide +kernel
theorem d_Box_request_81 : decode b_Box_request 81 = .ok (.aload_n 0, 1) := by decide +kernel
theorem d_Box_request_82 : decode b_Box_request 82 = .ok (.iload_n 2, 1) := by decide +kernel
theorem d_Box_request_83 : decode b_Box_request 83 = .ok (.iload_n 3, 1) := by decide +kernel
theorem d_Box_request_84 : decode b_Box_request 84 = .ok (.invokevirtual 187, 3) := by decide +kernel
theorem d_Box_request_87 : decode b_Box_request 87 = .ok (.ifCond .ne 13, 3) := by decide +kernel
theorem d_Box_request_90 : decode b_Box_request 90 = .ok (.new 109, 3) := by decide +kernel
theorem d_Box_request_93 : decode b_Box_request 93 = .ok (.dup, 1) := by decide +kernel
theorem d_Box_request_94 : decode b_Box_request 94 = .ok (.ldc 191, 2) := by decide +kernel
theorem d_Box_request_96 : decode b_Box_request 96 = .ok (.invokespecial 113, 3) := by decide +kernel
theorem d_Box_request_99 : decode b_Box_request 99 = .ok (.athrow, 1) := by decide +kernel
theorem d_Box_request_100 : decode b_Box_request 100 = .ok (.aload_n 0, 1) := by decide +kernel
theorem d_Box_request_101 : decode b_Box_request 101 = .ok (.getfield 44, 3) := by decide +kernel
theorem d_Box_request_104 : decode b_Box_request 104 = .ok (.iload_n 2, 1) := by decide +kernel
theorem d_Box_request_105 : decode b_Box_request 105 = .ok (.aload_n 0, 1) := by decide +kernel
theorem d_Box_request_106 : decode b_Box_request 106 = .ok (.iload_n 2, 1) := by decide +kernel
theorem d_Box_request_107 : decode b_Box_request 107 = .ok (.iload_n 3, 1) := by decide +kernel
theorem d_Box_request_108 : decode b_Box_request 108 = .ok (.invokevirtual 193, 3) := by decide +kernel
theorem d_Box_request_111 : decode b_Box_request 111 = .ok (.invokevirtual 197, 3) := by decide +kernel
theorem d_Box_request_114 : decode b_Box_request 114 = .ok (.ireturn, 1) := by decide +kernel
theorem d_Box_reply_0 : decode b_Box_reply 0 = .ok (.iload_n 1, 1) := by decide +kernel
theorem d_Box_reply_1 : decode b_Box_reply 1 = .ok (.ifCond .lt 14, 3) := by decide +kernel
theorem d_Box_reply_4 : decode b_Box_reply 4 = .ok (.iload_n 1, 1) := by decide +kernel
theorem d_Box_reply_5 : decode b_Box_reply 5 = .ok (.aload_n 0, 1) := by decide +kernel
theorem d_Box_reply_6 : decode b_Box_reply 6 = .ok (.getfield 44, 3) := by decide +kernel
theorem d_Box_reply_9 : decode b_Box_reply 9 = .ok (.getfield 201, 3) := by decide +kernel
theorem d_Box_reply_12 : decode b_Box_reply 12 = .ok (.if_icmp .lt 13, 3) := by decide +kernel
theorem d_Box_reply_15 : decode b_Box_reply 15 = .ok (.new 204, 3) := by decide +kernel
theorem d_Box_reply_18 : decode b_Box_reply 18 = .ok (.dup, 1) := by decide +kernel
theorem d_Box_reply_19 : decode b_Box_reply 19 = .ok (.ldc 206, 2) := by decide +kernel
theorem d_Box_reply_21 : decode b_Box_reply 21 = .ok (.invokespecial 208, 3) := by decide +kernel
theorem d_Box_reply_24 : decode b_Box_reply 24 = .ok (.athrow, 1) := by decide +kernel
theorem d_Box_reply_25 : decode b_Box_reply 25 = .ok (.aload_n 0, 1) := by decide +kernel
theorem d_Box_reply_26 : decode b_Box_reply 26 = .ok (.getfield 44, 3) := by decide +kernel
theorem d_Box_reply_29 : decode b_Box_reply 29 = .ok (.getfield 209, 3) := by decide +kernel
theorem d_Box_reply_32 : decode b_Box_reply 32 = .ok (.iload_n 1, 1) := by decide +kernel
theorem d_Box_reply_33 : decode b_Box_reply 33 = .ok (.iaload, 1) := by decide +kernel
theorem d_Box_reply_34 : decode b_Box_reply 34 = .ok (.ireturn, 1) := by decide +kernel
theorem d_Box_flash_0 : decode b_Box_flash 0 = .ok (.iload_n 1, 1) := by decide +kernel
theorem d_Box_flash_1 : decode b_Box_flash 1 = .ok (.iconst 0, 1) := by decide +kernel
theorem d_Box_flash_2 : decode b_Box_flash 2 = .ok (.bipush 11, 2) := by decide +kernel
theorem d_Box_flash_4 : decode b_Box_flash 4 = .ok (.invokestatic 52, 3) := by decide +kernel
theorem d_Box_flash_7 : decode b_Box_flash 7 = .ok (.iload_n 2, 1) := by decide +kernel
theorem d_Box_flash_8 : decode b_Box_flash 8 = .ok (.iconst 0, 1) := by decide +kernel
theorem d_Box_flash_9 : decode b_Box_flash 9 = .ok (.iconst 5, 1) := by decide +kernel
theorem d_Box_flash_10 : decode b_Box_flash 10 = .ok (.invokestatic 52, 3) := by decide +kernel
theorem d_Box_flash_13 : decode b_Box_flash 13 = .ok (.aload_n 0, 1) := by decide +kernel
theorem d_Box_flash_14 : decode b_Box_flash 14 = .ok (.getfield 37, 3) := by decide +kernel
theorem d_Box_flash_17 : decode b_Box_flash 17 = .ok (.iload_n 1, 1) := by decide +kernel
theorem d_Box_flash_18 : decode b_Box_flash 18 = .ok (.iload_n 2, 1) := by decide +kernel
theorem d_Box_flash_19 : decode b_Box_flash 19 = .ok (.invokevirtual 213, 3) := by decide +kernel
theorem d_Box_flash_22 : decode b_Box_flash 22 = .ok (.lreturn, 1) := by decide +kernel
theorem d_Box_read_0 : decode b_Box_read 0 = .ok (.iload_n 1, 1) := by decide +kernel
theorem d_Box_read_1 : decode b_Box_read 1 = .ok (.iconst 0, 1) := by decide +kernel
theorem d_Box_read_2 : decode b_Box_read 2 = .ok (.iconst 4, 1) := by decide +kernel
theorem d_Box_read_3 : decode b_Box_read 3 = .ok (.invokestatic 52, 3) := by decide +kernel
theorem d_Box_read_6 : decode b_Box_read 6 = .ok (.aload_n 0, 1) := by decide +kernel
theorem d_Box_read_7 : decode b_Box_read 7 = .ok (.invokevirtual 72, 3) := by decide +kernel
theorem d_Box_read_10 : decode b_Box_read 10 = .ok (.aload_n 0, 1) := by decide +kernel
theorem d_Box_read_11 : decode b_Box_read 11 = .ok (.getfield 23, 3) := by decide +kernel
theorem d_Box_read_14 : decode b_Box_read 14 = .ok (.iload_n 1, 1) := by decide +kernel
theorem d_Box_read_15 : decode b_Box_read 15 = .ok (.invokevirtual 216, 3) := by decide +kernel
theorem d_Box_read_18 : decode b_Box_read 18 = .ok (.dreturn, 1) := by decide +kernel
theorem d_Box_price_0 : decode b_Box_price 0 = .ok (.iload_n 1, 1) := by decide +kernel
theorem d_Box_price_1 : decode b_Box_price 1 = .ok (.iconst 0, 1) := by decide +kernel
theorem d_Box_price_2 : decode b_Box_price 2 = .ok (.iconst 2, 1) := by decide +kernel
theorem d_Box_price_3 : decode b_Box_price 3 = .ok (.invokestatic 52, 3) := by decide +kernel
theorem d_Box_price_6 : decode b_Box_price 6 = .ok (.aload_n 0, 1) := by decide +kernel
theorem d_Box_price_7 : decode b_Box_price 7 = .ok (.getfield 9, 3) := by decide +kernel
theorem d_Box_price_10 : decode b_Box_price 10 = .ok (.iload_n 1, 1) := by decide +kernel
theorem d_Box_price_11 : decode b_Box_price 11 = .ok (.daload, 1) := by decide +kernel
theorem d_Box_price_12 : decode b_Box_price 12 = .ok (.dreturn, 1) := by decide +kernel
theorem d_Box_count_0 : decode b_Box_count 0 = .ok (.iload_n 1, 1) := by decide +kernel
theorem d_Box_count_1 : decode b_Box_count 1 = .ok (.iconst 0, 1) := by decide +kernel
theorem d_Box_count_2 : decode b_Box_count 2 = .ok (.bipush 10, 2) := by decide +kernel
theorem d_Box_count_4 : decode b_Box_count 4 = .ok (.invokestatic 52, 3) := by decide +kernel
theorem d_Box_count_7 : decode b_Box_count 7 = .ok (.iload_n 1, 1) := by decide +kernel
theorem d_Box_count_8 : decode b_Box_count 8 = .ok (.bipush 6, 2) := by decide +kernel
theorem d_Box_count_10 : decode b_Box_count 10 = .ok (.if_icmp .lt 13, 3) := by decide +kernel
theorem d_Box_count_13 : decode b_Box_count 13 = .ok (.aload_n 0, 1) := by decide +kernel
theorem d_Box_count_14 : decode b_Box_count 14 = .ok (.invokevirtual 72, 3) := by decide +kernel
theorem d_Box_count_17 : decode b_Box_count 17 = .ok (.aload_n 0, 1) := by decide +kernel
theorem d_Box_count_18 : decode b_Box_count 18 = .ok (.iload_n 1, 1) := by decide +kernel
theorem d_Box_count_19 : decode b_Box_count 19 = .ok (.invokevirtual 220, 3) := by decide +kernel
theorem d_Box_count_22 : decode b_Box_count 22 = .ok (.ireturn, 1) := by decide +kernel
theorem d_Box_count_23 : decode b_Box_count 23 = .ok (.iload_n 1, 1) := by decide +kernel
theorem d_Box_count_24 : decode b_Box_count 24 = .ok (.ifCond .ne 16, 3) := by decide +kernel
theorem d_Box_count_27 : decode b_Box_count 27 = .ok (.aload_n 0, 1) := by decide +kernel
theorem d_Box_count_28 : decode b_Box_count 28 = .ok (.getfield 48, 3) := by decide +kernel
theorem d_Box_count_31 : decode b_Box_count 31 = .ok (.ifCond .eq 7, 3) := by decide +kernel
theorem d_Box_count_34 : decode b_Box_count 34 = .ok (.iconst 1, 1) := by decide +kernel
theorem d_Box_count_35 : decode b_Box_count 35 = .ok (.goto 4, 3) := by decide +kernel
theorem d_Box_count_38 : decode b_Box_count 38 = .ok (.iconst 0, 1) := by decide +kernel
theorem d_Box_count_39 : decode b_Box_count 39 = .ok (.ireturn, 1) := by decide +kernel
theorem d_Box_count_40 : decode b_Box_count 40 = .ok (.iload_n 1, 1) := by decide +kernel
theorem d_Box_count_41 : decode b_Box_count 41 = .ok (.iconst 1, 1) := by decide +kernel
theorem d_Box_count_42 : decode b_Box_count 42 = .ok (.if_icmp .ne 11, 3) := by decide +kernel
theorem d_Box_count_45 : decode b_Box_count 45 = .ok (.aload_n 0, 1) := by decide +kernel
theorem d_Box_count_46 : decode b_Box_count 46 = .ok (.getfield 30, 3) := by decide +kernel
theorem d_Box_count_49 : decode b_Box_count 49 = .ok (.getfield 223, 3) := by decide +kernel
theorem d_Box_count_52 : decode b_Box_count 52 = .ok (.ireturn, 1) := by decide +kernel
theorem d_Box_count_53 : decode b_Box_count 53 = .ok (.aload_n 0, 1) := by decide +kernel
theorem d_Box_count_54 : decode b_Box_count 54 = .ok (.getfield 37, 3) := by decide +kernel
theorem d_Box_count_57 : decode b_Box_count 57 = .ok (.getfield 225, 3) := by decide +kernel
theorem d_Box_count_60 : decode b_Box_count 60 = .ok (.iload_n 1, 1) := by decide +kernel
theorem d_Box_count_61 : decode b_Box_count 61 = .ok (.iconst 2, 1) := by decide +kernel
theorem d_Box_count_62 : decode b_Box_count 62 = .ok (.isub, 1) := by decide +kernel
theorem d_Box_count_63 : decode b_Box_count 63 = .ok (.iaload, 1) := by decide +kernel
theorem d_Box_count_64 : decode b_Box_count 64 = .ok (.ireturn, 1) := by decide +kernel
