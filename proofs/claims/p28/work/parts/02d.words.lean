
set_option maxRecDepth 20000 in
theorem wd_519 : (.methodLink RX3 23 yX3_fits : Cond) ∈ lw_all := in_all 519 (by decide +kernel) (by decide +kernel)
set_option maxRecDepth 20000 in
theorem wd_521 : (.instanceMethod yX3_fits : Cond) ∈ lw_all := in_all 521 (by decide +kernel) (by decide +kernel)
set_option maxRecDepth 20000 in
theorem wd_522 : (.code yX3_fits cX3_fits 5 (some .boolean) : Cond) ∈ lw_all := in_all 522 (by decide +kernel) (by decide +kernel)
set_option maxRecDepth 20000 in
theorem wd_523 : (.methodLink RX3 19 yX3_signAt : Cond) ∈ lw_all := in_all 523 (by decide +kernel) (by decide +kernel)
set_option maxRecDepth 20000 in
theorem wd_524 : (.instanceMethod yX3_signAt : Cond) ∈ lw_all := in_all 524 (by decide +kernel) (by decide +kernel)
set_option maxRecDepth 20000 in
theorem wd_525 : (.selects RX3 yX3_signAt yX3_signAt : Cond) ∈ lw_all := in_all 525 (by decide +kernel) (by decide +kernel)
set_option maxRecDepth 20000 in
theorem wd_526 : (.code yX3_signAt cX3_signAt 2 (some .int) : Cond) ∈ lw_all := in_all 526 (by decide +kernel) (by decide +kernel)
set_option maxRecDepth 20000 in
theorem wd_527 : (.methodLink RX3 31 yX3_isWhole : Cond) ∈ lw_all := in_all 527 (by decide +kernel) (by decide +kernel)
set_option maxRecDepth 20000 in
theorem wd_529 : (.instanceMethod yX3_isWhole : Cond) ∈ lw_all := in_all 529 (by decide +kernel) (by decide +kernel)
set_option maxRecDepth 20000 in
theorem wd_530 : (.code yX3_isWhole cX3_isWhole 4 (some .boolean) : Cond) ∈ lw_all := in_all 530 (by decide +kernel) (by decide +kernel)
set_option maxRecDepth 20000 in
theorem wd_531 : (.methodLink RX3 34 yX3_isDigit : Cond) ∈ lw_all := in_all 531 (by decide +kernel) (by decide +kernel)
set_option maxRecDepth 20000 in
theorem wd_532 : (.static yX3_isDigit : Cond) ∈ lw_all := in_all 532 (by decide +kernel) (by decide +kernel)
set_option maxRecDepth 20000 in
theorem wd_533 : (.code yX3_isDigit cX3_isDigit 1 (some .boolean) : Cond) ∈ lw_all := in_all 533 (by decide +kernel) (by decide +kernel)
set_option maxRecDepth 20000 in
theorem wd_534 : (.methodLink RX3 38 yX3_endsHead : Cond) ∈ lw_all := in_all 534 (by decide +kernel) (by decide +kernel)
set_option maxRecDepth 20000 in
theorem wd_535 : (.static yX3_endsHead : Cond) ∈ lw_all := in_all 535 (by decide +kernel) (by decide +kernel)
set_option maxRecDepth 20000 in
theorem wd_536 : (.code yX3_endsHead cX3_endsHead 2 (some .boolean) : Cond) ∈ lw_all := in_all 536 (by decide +kernel) (by decide +kernel)
set_option maxRecDepth 20000 in
theorem wd_537 : (.methodLink RX3 41 yX3_fitsBehindHead : Cond) ∈ lw_all := in_all 537 (by decide +kernel) (by decide +kernel)
set_option maxRecDepth 20000 in
theorem wd_539 : (.instanceMethod yX3_fitsBehindHead : Cond) ∈ lw_all := in_all 539 (by decide +kernel) (by decide +kernel)
set_option maxRecDepth 20000 in
theorem wd_540 : (.code yX3_fitsBehindHead cX3_fitsBehindHead 4 (some .boolean) : Cond) ∈ lw_all := in_all 540 (by decide +kernel) (by decide +kernel)
set_option maxRecDepth 20000 in
theorem wd_541 : (.methodLink RX3 44 yX3_numberIn : Cond) ∈ lw_all := in_all 541 (by decide +kernel) (by decide +kernel)
set_option maxRecDepth 20000 in
theorem wd_542 : (.instanceMethod yX3_numberIn : Cond) ∈ lw_all := in_all 542 (by decide +kernel) (by decide +kernel)
set_option maxRecDepth 20000 in
theorem wd_543 : (.selects RX3 yX3_numberIn yX3_numberIn : Cond) ∈ lw_all := in_all 543 (by decide +kernel) (by decide +kernel)
set_option maxRecDepth 20000 in
theorem wd_544 : (.code yX3_numberIn cX3_numberIn 5 (some .int) : Cond) ∈ lw_all := in_all 544 (by decide +kernel) (by decide +kernel)
set_option maxRecDepth 20000 in
theorem wd_546 : (.methodLink RX5 133 yX5_runOrders : Cond) ∈ lw_all := in_all 546 (by decide +kernel) (by decide +kernel)
set_option maxRecDepth 20000 in
theorem wd_548 : (.instanceMethod yX5_runOrders : Cond) ∈ lw_all := in_all 548 (by decide +kernel) (by decide +kernel)
set_option maxRecDepth 20000 in
theorem wd_549 : (.code yX5_runOrders cX5_runOrders 5 (some .int) : Cond) ∈ lw_all := in_all 549 (by decide +kernel) (by decide +kernel)
set_option maxRecDepth 20000 in
theorem wd_550 : (.methodLink RX5 264 yX3_signAt : Cond) ∈ lw_all := in_all 550 (by decide +kernel) (by decide +kernel)
set_option maxRecDepth 20000 in
theorem wd_551 : (.methodLink RX5 267 yX5_runOrder : Cond) ∈ lw_all := in_all 551 (by decide +kernel) (by decide +kernel)
set_option maxRecDepth 20000 in
theorem wd_553 : (.instanceMethod yX5_runOrder : Cond) ∈ lw_all := in_all 553 (by decide +kernel) (by decide +kernel)
set_option maxRecDepth 20000 in
theorem wd_554 : (.code yX5_runOrder cX5_runOrder 5 (some .boolean) : Cond) ∈ lw_all := in_all 554 (by decide +kernel) (by decide +kernel)
set_option maxRecDepth 20000 in
theorem wd_555 : (.methodLink RX5 270 yX3_numberIn : Cond) ∈ lw_all := in_all 555 (by decide +kernel) (by decide +kernel)
set_option maxRecDepth 20000 in
theorem wd_556 : (.methodLink RX5 273 yX5_runBook : Cond) ∈ lw_all := in_all 556 (by decide +kernel) (by decide +kernel)
set_option maxRecDepth 20000 in
theorem wd_558 : (.instanceMethod yX5_runBook : Cond) ∈ lw_all := in_all 558 (by decide +kernel) (by decide +kernel)
set_option maxRecDepth 20000 in
theorem wd_559 : (.code yX5_runBook cX5_runBook 3 (some .boolean) : Cond) ∈ lw_all := in_all 559 (by decide +kernel) (by decide +kernel)
set_option maxRecDepth 20000 in
theorem wd_560 : (.methodLink RX5 276 yX5_runWriting : Cond) ∈ lw_all := in_all 560 (by decide +kernel) (by decide +kernel)
set_option maxRecDepth 20000 in
theorem wd_562 : (.instanceMethod yX5_runWriting : Cond) ∈ lw_all := in_all 562 (by decide +kernel) (by decide +kernel)
set_option maxRecDepth 20000 in
theorem wd_563 : (.code yX5_runWriting cX5_runWriting 3 (some .boolean) : Cond) ∈ lw_all := in_all 563 (by decide +kernel) (by decide +kernel)
set_option maxRecDepth 20000 in
theorem wd_564 : (.methodLink RX5 279 yX5_runVoiding : Cond) ∈ lw_all := in_all 564 (by decide +kernel) (by decide +kernel)
set_option maxRecDepth 20000 in
theorem wd_566 : (.instanceMethod yX5_runVoiding : Cond) ∈ lw_all := in_all 566 (by decide +kernel) (by decide +kernel)
set_option maxRecDepth 20000 in
theorem wd_567 : (.code yX5_runVoiding cX5_runVoiding 3 (some .boolean) : Cond) ∈ lw_all := in_all 567 (by decide +kernel) (by decide +kernel)
set_option maxRecDepth 20000 in
theorem wd_568 : (.methodLink RX5 121 yX3_clear : Cond) ∈ lw_all := in_all 568 (by decide +kernel) (by decide +kernel)
set_option maxRecDepth 20000 in
theorem wd_569 : (.instanceMethod yX3_clear : Cond) ∈ lw_all := in_all 569 (by decide +kernel) (by decide +kernel)
set_option maxRecDepth 20000 in
theorem wd_570 : (.selects RX3 yX3_clear yX3_clear : Cond) ∈ lw_all := in_all 570 (by decide +kernel) (by decide +kernel)
set_option maxRecDepth 20000 in
theorem wd_571 : (.code yX3_clear cX3_clear 2 (some .int) : Cond) ∈ lw_all := in_all 571 (by decide +kernel) (by decide +kernel)
set_option maxRecDepth 20000 in
theorem wd_572 : (.methodLink RL 50 yX5_cheque : Cond) ∈ lw_all := in_all 572 (by decide +kernel) (by decide +kernel)
set_option maxRecDepth 20000 in
theorem wd_573 : (.instanceMethod yX5_cheque : Cond) ∈ lw_all := in_all 573 (by decide +kernel) (by decide +kernel)
set_option maxRecDepth 20000 in
theorem wd_574 : (.selects RX5 yX5_cheque yX5_cheque : Cond) ∈ lw_all := in_all 574 (by decide +kernel) (by decide +kernel)
set_option maxRecDepth 20000 in
theorem wd_575 : (.code yX5_cheque cX5_cheque 4 (some .int) : Cond) ∈ lw_all := in_all 575 (by decide +kernel) (by decide +kernel)
set_option maxRecDepth 20000 in
theorem wd_577 : (.methodLink RX5 171 yX0_amountAt : Cond) ∈ lw_all := in_all 577 (by decide +kernel) (by decide +kernel)
set_option maxRecDepth 20000 in
theorem wd_578 : (.methodLink RX5 174 yX0_sameKindFrom : Cond) ∈ lw_all := in_all 578 (by decide +kernel) (by decide +kernel)
set_option maxRecDepth 20000 in
theorem wd_579 : (.instanceMethod yX0_sameKindFrom : Cond) ∈ lw_all := in_all 579 (by decide +kernel) (by decide +kernel)
set_option maxRecDepth 20000 in
theorem wd_580 : (.selects RX0 yX0_sameKindFrom yX0_sameKindFrom : Cond) ∈ lw_all := in_all 580 (by decide +kernel) (by decide +kernel)
set_option maxRecDepth 20000 in
theorem wd_581 : (.code yX0_sameKindFrom cX0_sameKindFrom 7 (some .int) : Cond) ∈ lw_all := in_all 581 (by decide +kernel) (by decide +kernel)
set_option maxRecDepth 20000 in
theorem wd_583 : (.methodLink RL 53 yX5_bookOf : Cond) ∈ lw_all := in_all 583 (by decide +kernel) (by decide +kernel)
set_option maxRecDepth 20000 in
theorem wd_584 : (.instanceMethod yX5_bookOf : Cond) ∈ lw_all := in_all 584 (by decide +kernel) (by decide +kernel)
set_option maxRecDepth 20000 in
theorem wd_585 : (.selects RX5 yX5_bookOf yX5_bookOf : Cond) ∈ lw_all := in_all 585 (by decide +kernel) (by decide +kernel)
set_option maxRecDepth 20000 in
theorem wd_586 : (.code yX5_bookOf cX5_bookOf 3 (some .int) : Cond) ∈ lw_all := in_all 586 (by decide +kernel) (by decide +kernel)
set_option maxRecDepth 20000 in
theorem wd_589 : (.methodLink RX5 183 yX0_numberOf : Cond) ∈ lw_all := in_all 589 (by decide +kernel) (by decide +kernel)
set_option maxRecDepth 20000 in
theorem wd_590 : (.methodLink RL 59 yX5_ranked : Cond) ∈ lw_all := in_all 590 (by decide +kernel) (by decide +kernel)
set_option maxRecDepth 20000 in
theorem wd_591 : (.instanceMethod yX5_ranked : Cond) ∈ lw_all := in_all 591 (by decide +kernel) (by decide +kernel)
set_option maxRecDepth 20000 in
theorem wd_592 : (.selects RX5 yX5_ranked yX5_ranked : Cond) ∈ lw_all := in_all 592 (by decide +kernel) (by decide +kernel)
set_option maxRecDepth 20000 in
theorem wd_593 : (.code yX5_ranked cX5_ranked 2 (some .int) : Cond) ∈ lw_all := in_all 593 (by decide +kernel) (by decide +kernel)
set_option maxRecDepth 20000 in
theorem wd_595 : (.methodLink RX5 199 yX0_serialOfRank : Cond) ∈ lw_all := in_all 595 (by decide +kernel) (by decide +kernel)
set_option maxRecDepth 20000 in
theorem wd_596 : (.instanceMethod yX0_serialOfRank : Cond) ∈ lw_all := in_all 596 (by decide +kernel) (by decide +kernel)
set_option maxRecDepth 20000 in
theorem wd_597 : (.selects RX0 yX0_serialOfRank yX0_serialOfRank : Cond) ∈ lw_all := in_all 597 (by decide +kernel) (by decide +kernel)
set_option maxRecDepth 20000 in
theorem wd_598 : (.code yX0_serialOfRank cX0_serialOfRank 6 (some .int) : Cond) ∈ lw_all := in_all 598 (by decide +kernel) (by decide +kernel)
set_option maxRecDepth 20000 in
theorem wd_599 : (.methodLink RX0 76 yX0_bookOfRank : Cond) ∈ lw_all := in_all 599 (by decide +kernel) (by decide +kernel)
set_option maxRecDepth 20000 in
theorem wd_600 : (.instanceMethod yX0_bookOfRank : Cond) ∈ lw_all := in_all 600 (by decide +kernel) (by decide +kernel)
set_option maxRecDepth 20000 in
theorem wd_601 : (.selects RX0 yX0_bookOfRank yX0_bookOfRank : Cond) ∈ lw_all := in_all 601 (by decide +kernel) (by decide +kernel)
set_option maxRecDepth 20000 in
theorem wd_602 : (.code yX0_bookOfRank cX0_bookOfRank 3 (some .int) : Cond) ∈ lw_all := in_all 602 (by decide +kernel) (by decide +kernel)
set_option maxRecDepth 20000 in
theorem wd_603 : (.methodLink RX0 73 yX0_booksBefore : Cond) ∈ lw_all := in_all 603 (by decide +kernel) (by decide +kernel)
set_option maxRecDepth 20000 in
theorem wd_605 : (.instanceMethod yX0_booksBefore : Cond) ∈ lw_all := in_all 605 (by decide +kernel) (by decide +kernel)
set_option maxRecDepth 20000 in
theorem wd_606 : (.code yX0_booksBefore cX0_booksBefore 4 (some .int) : Cond) ∈ lw_all := in_all 606 (by decide +kernel) (by decide +kernel)
set_option maxRecDepth 20000 in
theorem wd_607 : (.methodLink RL 62 yX5_missed : Cond) ∈ lw_all := in_all 607 (by decide +kernel) (by decide +kernel)
set_option maxRecDepth 20000 in
theorem wd_608 : (.instanceMethod yX5_missed : Cond) ∈ lw_all := in_all 608 (by decide +kernel) (by decide +kernel)
set_option maxRecDepth 20000 in
theorem wd_609 : (.selects RX5 yX5_missed yX5_missed : Cond) ∈ lw_all := in_all 609 (by decide +kernel) (by decide +kernel)
set_option maxRecDepth 20000 in
theorem wd_610 : (.code yX5_missed cX5_missed 3 (some .int) : Cond) ∈ lw_all := in_all 610 (by decide +kernel) (by decide +kernel)
set_option maxRecDepth 20000 in
theorem wd_611 : (.methodLink RX5 202 yX5_throwIfNoSlipKind : Cond) ∈ lw_all := in_all 611 (by decide +kernel) (by decide +kernel)
set_option maxRecDepth 20000 in
theorem wd_612 : (.static yX5_throwIfNoSlipKind : Cond) ∈ lw_all := in_all 612 (by decide +kernel) (by decide +kernel)
set_option maxRecDepth 20000 in
theorem wd_613 : (.code yX5_throwIfNoSlipKind cX5_throwIfNoSlipKind 1 none : Cond) ∈ lw_all := in_all 613 (by decide +kernel) (by decide +kernel)
set_option maxRecDepth 20000 in
theorem wd_615 : (.methodLink RX5 205 yX2_hiddenMisreadings : Cond) ∈ lw_all := in_all 615 (by decide +kernel) (by decide +kernel)
set_option maxRecDepth 20000 in
theorem wd_616 : (.instanceMethod yX2_hiddenMisreadings : Cond) ∈ lw_all := in_all 616 (by decide +kernel) (by decide +kernel)
set_option maxRecDepth 20000 in
theorem wd_617 : (.selects RX2 yX2_hiddenMisreadings yX2_hiddenMisreadings : Cond) ∈ lw_all := in_all 617 (by decide +kernel) (by decide +kernel)
set_option maxRecDepth 20000 in
theorem wd_618 : (.code yX2_hiddenMisreadings cX2_hiddenMisreadings 7 (some .int) : Cond) ∈ lw_all := in_all 618 (by decide +kernel) (by decide +kernel)
set_option maxRecDepth 20000 in
theorem wd_619 : (.methodLink RX2 44 yX2_digitAt : Cond) ∈ lw_all := in_all 619 (by decide +kernel) (by decide +kernel)
set_option maxRecDepth 20000 in
theorem wd_620 : (.static yX2_digitAt : Cond) ∈ lw_all := in_all 620 (by decide +kernel) (by decide +kernel)
set_option maxRecDepth 20000 in
theorem wd_621 : (.code yX2_digitAt cX2_digitAt 4 (some .int) : Cond) ∈ lw_all := in_all 621 (by decide +kernel) (by decide +kernel)
set_option maxRecDepth 20000 in
theorem wd_622 : (.methodLink RX2 40 yX2_factorAt : Cond) ∈ lw_all := in_all 622 (by decide +kernel) (by decide +kernel)
set_option maxRecDepth 20000 in
theorem wd_623 : (.instanceMethod yX2_factorAt : Cond) ∈ lw_all := in_all 623 (by decide +kernel) (by decide +kernel)
set_option maxRecDepth 20000 in
theorem wd_624 : (.selects RX2 yX2_factorAt yX2_factorAt : Cond) ∈ lw_all := in_all 624 (by decide +kernel) (by decide +kernel)
set_option maxRecDepth 20000 in
theorem wd_625 : (.code yX2_factorAt cX2_factorAt 4 (some .int) : Cond) ∈ lw_all := in_all 625 (by decide +kernel) (by decide +kernel)
set_option maxRecDepth 20000 in
theorem wd_626 : (.methodLink RX2 30 yX2_isHidden : Cond) ∈ lw_all := in_all 626 (by decide +kernel) (by decide +kernel)
set_option maxRecDepth 20000 in
theorem wd_628 : (.instanceMethod yX2_isHidden : Cond) ∈ lw_all := in_all 628 (by decide +kernel) (by decide +kernel)
set_option maxRecDepth 20000 in
theorem wd_629 : (.code yX2_isHidden cX2_isHidden 3 (some .boolean) : Cond) ∈ lw_all := in_all 629 (by decide +kernel) (by decide +kernel)
set_option maxRecDepth 20000 in
theorem wd_630 : (.methodLink RX5 208 yX2_hiddenSwaps : Cond) ∈ lw_all := in_all 630 (by decide +kernel) (by decide +kernel)
set_option maxRecDepth 20000 in
theorem wd_631 : (.instanceMethod yX2_hiddenSwaps : Cond) ∈ lw_all := in_all 631 (by decide +kernel) (by decide +kernel)
set_option maxRecDepth 20000 in
theorem wd_632 : (.selects RX2 yX2_hiddenSwaps yX2_hiddenSwaps : Cond) ∈ lw_all := in_all 632 (by decide +kernel) (by decide +kernel)
set_option maxRecDepth 20000 in
theorem wd_633 : (.code yX2_hiddenSwaps cX2_hiddenSwaps 6 (some .int) : Cond) ∈ lw_all := in_all 633 (by decide +kernel) (by decide +kernel)
set_option maxRecDepth 20000 in
theorem wd_634 : (.methodLink RL 65 yX5_weak : Cond) ∈ lw_all := in_all 634 (by decide +kernel) (by decide +kernel)
set_option maxRecDepth 20000 in
theorem wd_635 : (.instanceMethod yX5_weak : Cond) ∈ lw_all := in_all 635 (by decide +kernel) (by decide +kernel)
set_option maxRecDepth 20000 in
theorem wd_636 : (.selects RX5 yX5_weak yX5_weak : Cond) ∈ lw_all := in_all 636 (by decide +kernel) (by decide +kernel)
set_option maxRecDepth 20000 in
theorem wd_637 : (.code yX5_weak cX5_weak 5 (some .int) : Cond) ∈ lw_all := in_all 637 (by decide +kernel) (by decide +kernel)
set_option maxRecDepth 20000 in
theorem wd_638 : (.methodLink RX5 211 yX5_positionsOf : Cond) ∈ lw_all := in_all 638 (by decide +kernel) (by decide +kernel)
set_option maxRecDepth 20000 in
theorem wd_639 : (.static yX5_positionsOf : Cond) ∈ lw_all := in_all 639 (by decide +kernel) (by decide +kernel)
set_option maxRecDepth 20000 in
theorem wd_640 : (.code yX5_positionsOf cX5_positionsOf 1 (some .int) : Cond) ∈ lw_all := in_all 640 (by decide +kernel) (by decide +kernel)
set_option maxRecDepth 20000 in
theorem wd_642 : (.methodLink RX5 218 yX2_factorAt : Cond) ∈ lw_all := in_all 642 (by decide +kernel) (by decide +kernel)
set_option maxRecDepth 20000 in
theorem wd_643 : (.methodLink RX5 221 yX2_hiddenPairsTried : Cond) ∈ lw_all := in_all 643 (by decide +kernel) (by decide +kernel)
set_option maxRecDepth 20000 in
theorem wd_644 : (.instanceMethod yX2_hiddenPairsTried : Cond) ∈ lw_all := in_all 644 (by decide +kernel) (by decide +kernel)
set_option maxRecDepth 20000 in
theorem wd_645 : (.selects RX2 yX2_hiddenPairsTried yX2_hiddenPairsTried : Cond) ∈ lw_all := in_all 645 (by decide +kernel) (by decide +kernel)
set_option maxRecDepth 20000 in
theorem wd_646 : (.code yX2_hiddenPairsTried cX2_hiddenPairsTried 5 (some .int) : Cond) ∈ lw_all := in_all 646 (by decide +kernel) (by decide +kernel)
set_option maxRecDepth 20000 in
theorem wd_647 : (.methodLink RX5 224 yX2_hiddenPairs : Cond) ∈ lw_all := in_all 647 (by decide +kernel) (by decide +kernel)
set_option maxRecDepth 20000 in
theorem wd_648 : (.instanceMethod yX2_hiddenPairs : Cond) ∈ lw_all := in_all 648 (by decide +kernel) (by decide +kernel)
set_option maxRecDepth 20000 in
theorem wd_649 : (.selects RX2 yX2_hiddenPairs yX2_hiddenPairs : Cond) ∈ lw_all := in_all 649 (by decide +kernel) (by decide +kernel)
set_option maxRecDepth 20000 in
theorem wd_650 : (.code yX2_hiddenPairs cX2_hiddenPairs 4 (some .int) : Cond) ∈ lw_all := in_all 650 (by decide +kernel) (by decide +kernel)
set_option maxRecDepth 20000 in
theorem wd_651 : (.methodLink RL 69 yX5_bestWeight : Cond) ∈ lw_all := in_all 651 (by decide +kernel) (by decide +kernel)
set_option maxRecDepth 20000 in
theorem wd_652 : (.instanceMethod yX5_bestWeight : Cond) ∈ lw_all := in_all 652 (by decide +kernel) (by decide +kernel)
set_option maxRecDepth 20000 in
theorem wd_653 : (.selects RX5 yX5_bestWeight yX5_bestWeight : Cond) ∈ lw_all := in_all 653 (by decide +kernel) (by decide +kernel)
set_option maxRecDepth 20000 in
theorem wd_654 : (.code yX5_bestWeight cX5_bestWeight 6 (some .int) : Cond) ∈ lw_all := in_all 654 (by decide +kernel) (by decide +kernel)
set_option maxRecDepth 20000 in
theorem wd_655 : (.methodLink RX5 230 yX2_hiddenPairsWith : Cond) ∈ lw_all := in_all 655 (by decide +kernel) (by decide +kernel)
set_option maxRecDepth 20000 in
theorem wd_656 : (.instanceMethod yX2_hiddenPairsWith : Cond) ∈ lw_all := in_all 656 (by decide +kernel) (by decide +kernel)
set_option maxRecDepth 20000 in
theorem wd_657 : (.selects RX2 yX2_hiddenPairsWith yX2_hiddenPairsWith : Cond) ∈ lw_all := in_all 657 (by decide +kernel) (by decide +kernel)
set_option maxRecDepth 20000 in
theorem wd_658 : (.code yX2_hiddenPairsWith cX2_hiddenPairsWith 7 (some .int) : Cond) ∈ lw_all := in_all 658 (by decide +kernel) (by decide +kernel)
set_option maxRecDepth 20000 in
theorem wd_659 : (.methodLink RX2 34 yX2_hiddenPairs : Cond) ∈ lw_all := in_all 659 (by decide +kernel) (by decide +kernel)
set_option maxRecDepth 20000 in
theorem wd_660 : (.methodLink RL 72 yX5_meant : Cond) ∈ lw_all := in_all 660 (by decide +kernel) (by decide +kernel)
set_option maxRecDepth 20000 in
theorem wd_661 : (.instanceMethod yX5_meant : Cond) ∈ lw_all := in_all 661 (by decide +kernel) (by decide +kernel)
set_option maxRecDepth 20000 in
theorem wd_662 : (.selects RX5 yX5_meant yX5_meant : Cond) ∈ lw_all := in_all 662 (by decide +kernel) (by decide +kernel)
set_option maxRecDepth 20000 in
theorem wd_663 : (.code yX5_meant cX5_meant 4 (some .int) : Cond) ∈ lw_all := in_all 663 (by decide +kernel) (by decide +kernel)
set_option maxRecDepth 20000 in
theorem wd_665 : (.methodLink RX5 235 yX4_meantCheques : Cond) ∈ lw_all := in_all 665 (by decide +kernel) (by decide +kernel)
set_option maxRecDepth 20000 in
theorem wd_666 : (.instanceMethod yX4_meantCheques : Cond) ∈ lw_all := in_all 666 (by decide +kernel) (by decide +kernel)
set_option maxRecDepth 20000 in
theorem wd_667 : (.selects RX4 yX4_meantCheques yX4_meantCheques : Cond) ∈ lw_all := in_all 667 (by decide +kernel) (by decide +kernel)
set_option maxRecDepth 20000 in
theorem wd_668 : (.code yX4_meantCheques cX4_meantCheques 9 (some .int) : Cond) ∈ lw_all := in_all 668 (by decide +kernel) (by decide +kernel)
set_option maxRecDepth 20000 in
theorem wd_669 : (.methodLink RX4 60 yX0_bookOfRank : Cond) ∈ lw_all := in_all 669 (by decide +kernel) (by decide +kernel)
set_option maxRecDepth 20000 in
theorem wd_670 : (.methodLink RX4 63 yX0_firstOf : Cond) ∈ lw_all := in_all 670 (by decide +kernel) (by decide +kernel)
set_option maxRecDepth 20000 in
theorem wd_671 : (.methodLink RX4 66 yX0_sizeOf : Cond) ∈ lw_all := in_all 671 (by decide +kernel) (by decide +kernel)
set_option maxRecDepth 20000 in
theorem wd_672 : (.methodLink RX4 69 yX2_slipKind : Cond) ∈ lw_all := in_all 672 (by decide +kernel) (by decide +kernel)
set_option maxRecDepth 20000 in
theorem wd_673 : (.instanceMethod yX2_slipKind : Cond) ∈ lw_all := in_all 673 (by decide +kernel) (by decide +kernel)
set_option maxRecDepth 20000 in
theorem wd_674 : (.selects RX2 yX2_slipKind yX2_slipKind : Cond) ∈ lw_all := in_all 674 (by decide +kernel) (by decide +kernel)
set_option maxRecDepth 20000 in
theorem wd_675 : (.code yX2_slipKind cX2_slipKind 5 (some .int) : Cond) ∈ lw_all := in_all 675 (by decide +kernel) (by decide +kernel)
set_option maxRecDepth 20000 in
theorem wd_676 : (.methodLink RX2 47 yX2_letterOf : Cond) ∈ lw_all := in_all 676 (by decide +kernel) (by decide +kernel)
set_option maxRecDepth 20000 in
theorem wd_677 : (.methodLink RX2 50 yX2_digitSlip : Cond) ∈ lw_all := in_all 677 (by decide +kernel) (by decide +kernel)
set_option maxRecDepth 20000 in
theorem wd_678 : (.static yX2_digitSlip : Cond) ∈ lw_all := in_all 678 (by decide +kernel) (by decide +kernel)
set_option maxRecDepth 20000 in
theorem wd_679 : (.code yX2_digitSlip cX2_digitSlip 5 (some .int) : Cond) ∈ lw_all := in_all 679 (by decide +kernel) (by decide +kernel)
set_option maxRecDepth 20000 in
theorem wd_680 : (.methodLink RX2 53 yX2_isSwapped : Cond) ∈ lw_all := in_all 680 (by decide +kernel) (by decide +kernel)
set_option maxRecDepth 20000 in
theorem wd_681 : (.static yX2_isSwapped : Cond) ∈ lw_all := in_all 681 (by decide +kernel) (by decide +kernel)
set_option maxRecDepth 20000 in
theorem wd_682 : (.code yX2_isSwapped cX2_isSwapped 3 (some .boolean) : Cond) ∈ lw_all := in_all 682 (by decide +kernel) (by decide +kernel)
set_option maxRecDepth 20000 in
theorem wd_683 : (.methodLink RL 75 yX5_slip : Cond) ∈ lw_all := in_all 683 (by decide +kernel) (by decide +kernel)
set_option maxRecDepth 20000 in
theorem wd_684 : (.instanceMethod yX5_slip : Cond) ∈ lw_all := in_all 684 (by decide +kernel) (by decide +kernel)
set_option maxRecDepth 20000 in
theorem wd_685 : (.selects RX5 yX5_slip yX5_slip : Cond) ∈ lw_all := in_all 685 (by decide +kernel) (by decide +kernel)
set_option maxRecDepth 20000 in
theorem wd_686 : (.code yX5_slip cX5_slip 4 (some .int) : Cond) ∈ lw_all := in_all 686 (by decide +kernel) (by decide +kernel)
set_option maxRecDepth 20000 in
theorem wd_687 : (.methodLink RX5 239 yX2_slipKind : Cond) ∈ lw_all := in_all 687 (by decide +kernel) (by decide +kernel)
set_option maxRecDepth 20000 in
theorem wd_688 : (.methodLink RL 78 yX5_finds : Cond) ∈ lw_all := in_all 688 (by decide +kernel) (by decide +kernel)
set_option maxRecDepth 20000 in
theorem wd_689 : (.instanceMethod yX5_finds : Cond) ∈ lw_all := in_all 689 (by decide +kernel) (by decide +kernel)
set_option maxRecDepth 20000 in
theorem wd_690 : (.selects RX5 yX5_finds yX5_finds : Cond) ∈ lw_all := in_all 690 (by decide +kernel) (by decide +kernel)
set_option maxRecDepth 20000 in
theorem wd_691 : (.code yX5_finds cX5_finds 2 (some .boolean) : Cond) ∈ lw_all := in_all 691 (by decide +kernel) (by decide +kernel)
set_option maxRecDepth 20000 in
theorem wd_692 : (.methodLink RX5 227 yX2_hidesNothing : Cond) ∈ lw_all := in_all 692 (by decide +kernel) (by decide +kernel)
set_option maxRecDepth 20000 in
theorem wd_693 : (.instanceMethod yX2_hidesNothing : Cond) ∈ lw_all := in_all 693 (by decide +kernel) (by decide +kernel)
set_option maxRecDepth 20000 in
theorem wd_694 : (.selects RX2 yX2_hidesNothing yX2_hidesNothing : Cond) ∈ lw_all := in_all 694 (by decide +kernel) (by decide +kernel)
set_option maxRecDepth 20000 in
theorem wd_695 : (.code yX2_hidesNothing cX2_hidesNothing 3 (some .boolean) : Cond) ∈ lw_all := in_all 695 (by decide +kernel) (by decide +kernel)
set_option maxRecDepth 20000 in
theorem wd_697 : (.methodLink RL 108 yL_seen : Cond) ∈ lw_all := in_all 697 (by decide +kernel) (by decide +kernel)
set_option maxRecDepth 20000 in
theorem wd_698 : (.static yL_seen : Cond) ∈ lw_all := in_all 698 (by decide +kernel) (by decide +kernel)
set_option maxRecDepth 20000 in
theorem wd_704 : (.methodLink RL 122 yL_refused : Cond) ∈ lw_all := in_all 704 (by decide +kernel) (by decide +kernel)
set_option maxRecDepth 20000 in
theorem wd_705 : (.static yL_refused : Cond) ∈ lw_all := in_all 705 (by decide +kernel) (by decide +kernel)
set_option maxRecDepth 20000 in
theorem wd_707 : (.methodLink RL 112 yL_refusesOne : Cond) ∈ lw_all := in_all 707 (by decide +kernel) (by decide +kernel)
set_option maxRecDepth 20000 in
theorem wd_708 : (.static yL_refusesOne : Cond) ∈ lw_all := in_all 708 (by decide +kernel) (by decide +kernel)
set_option maxRecDepth 20000 in
theorem wd_710 : (.constant RL 97 (999999) : Cond) ∈ lw_all := in_all 710 (by decide +kernel) (by decide +kernel)
set_option maxRecDepth 20000 in
theorem wd_711 : (.methodLink RL 98 yL_far : Cond) ∈ lw_all := in_all 711 (by decide +kernel) (by decide +kernel)
set_option maxRecDepth 20000 in
theorem wd_712 : (.static yL_far : Cond) ∈ lw_all := in_all 712 (by decide +kernel) (by decide +kernel)
set_option maxRecDepth 20000 in
theorem wd_714 : (.constant RL 96 (-2147483648) : Cond) ∈ lw_all := in_all 714 (by decide +kernel) (by decide +kernel)
set_option maxRecDepth 20000 in
theorem wd_715 : (.constant RL 107 (999998) : Cond) ∈ lw_all := in_all 715 (by decide +kernel) (by decide +kernel)
set_option maxRecDepth 20000 in
theorem wd_716 : (.methodLink RL 217 yL_letters : Cond) ∈ lw_all := in_all 716 (by decide +kernel) (by decide +kernel)
set_option maxRecDepth 20000 in
theorem wd_717 : (.static yL_letters : Cond) ∈ lw_all := in_all 717 (by decide +kernel) (by decide +kernel)
set_option maxRecDepth 20000 in
theorem wd_719 : (.constant RL 117 (123456) : Cond) ∈ lw_all := in_all 719 (by decide +kernel) (by decide +kernel)
set_option maxRecDepth 20000 in
theorem wd_720 : (.methodLink RL 118 yX5_cashed : Cond) ∈ lw_all := in_all 720 (by decide +kernel) (by decide +kernel)
set_option maxRecDepth 20000 in
theorem wd_721 : (.instanceMethod yX5_cashed : Cond) ∈ lw_all := in_all 721 (by decide +kernel) (by decide +kernel)
set_option maxRecDepth 20000 in
theorem wd_722 : (.selects RX5 yX5_cashed yX5_cashed : Cond) ∈ lw_all := in_all 722 (by decide +kernel) (by decide +kernel)
set_option maxRecDepth 20000 in
theorem wd_723 : (.code yX5_cashed cX5_cashed 2 (some .double) : Cond) ∈ lw_all := in_all 723 (by decide +kernel) (by decide +kernel)
set_option maxRecDepth 20000 in
theorem wd_724 : (.constant RL 126 (111111) : Cond) ∈ lw_all := in_all 724 (by decide +kernel) (by decide +kernel)
set_option maxRecDepth 20000 in
theorem wd_725 : (.methodLink RL 221 yL_cheques : Cond) ∈ lw_all := in_all 725 (by decide +kernel) (by decide +kernel)
set_option maxRecDepth 20000 in
theorem wd_726 : (.static yL_cheques : Cond) ∈ lw_all := in_all 726 (by decide +kernel) (by decide +kernel)
set_option maxRecDepth 20000 in
theorem wd_729 : (.methodLink RL 224 yL_texts : Cond) ∈ lw_all := in_all 729 (by decide +kernel) (by decide +kernel)
set_option maxRecDepth 20000 in
theorem wd_730 : (.static yL_texts : Cond) ∈ lw_all := in_all 730 (by decide +kernel) (by decide +kernel)
set_option maxRecDepth 20000 in
theorem wd_733 : (.methodLink RL 143 yL_isError : Cond) ∈ lw_all := in_all 733 (by decide +kernel) (by decide +kernel)
set_option maxRecDepth 20000 in
theorem wd_734 : (.static yL_isError : Cond) ∈ lw_all := in_all 734 (by decide +kernel) (by decide +kernel)
set_option maxRecDepth 20000 in
theorem wd_736 : (.methodLink RL 131 yX5_clearBuffer : Cond) ∈ lw_all := in_all 736 (by decide +kernel) (by decide +kernel)
set_option maxRecDepth 20000 in
theorem wd_737 : (.instanceMethod yX5_clearBuffer : Cond) ∈ lw_all := in_all 737 (by decide +kernel) (by decide +kernel)
set_option maxRecDepth 20000 in
theorem wd_738 : (.selects RX5 yX5_clearBuffer yX5_clearBuffer : Cond) ∈ lw_all := in_all 738 (by decide +kernel) (by decide +kernel)
set_option maxRecDepth 20000 in
theorem wd_739 : (.code yX5_clearBuffer cX5_clearBuffer 1 (some .int) : Cond) ∈ lw_all := in_all 739 (by decide +kernel) (by decide +kernel)
set_option maxRecDepth 20000 in
theorem wd_740 : (.methodLink RL 134 yL_types : Cond) ∈ lw_all := in_all 740 (by decide +kernel) (by decide +kernel)
set_option maxRecDepth 20000 in
theorem wd_741 : (.static yL_types : Cond) ∈ lw_all := in_all 741 (by decide +kernel) (by decide +kernel)
set_option maxRecDepth 20000 in
theorem wd_744 : (.methodLink RL 138 yX5_firstError : Cond) ∈ lw_all := in_all 744 (by decide +kernel) (by decide +kernel)
set_option maxRecDepth 20000 in
theorem wd_745 : (.instanceMethod yX5_firstError : Cond) ∈ lw_all := in_all 745 (by decide +kernel) (by decide +kernel)
set_option maxRecDepth 20000 in
theorem wd_746 : (.selects RX5 yX5_firstError yX5_firstError : Cond) ∈ lw_all := in_all 746 (by decide +kernel) (by decide +kernel)
set_option maxRecDepth 20000 in
theorem wd_747 : (.code yX5_firstError cX5_firstError 1 (some .int) : Cond) ∈ lw_all := in_all 747 (by decide +kernel) (by decide +kernel)
set_option maxRecDepth 20000 in
theorem wd_748 : (.methodLink RX5 125 yX3_errorIndex : Cond) ∈ lw_all := in_all 748 (by decide +kernel) (by decide +kernel)
set_option maxRecDepth 20000 in
theorem wd_784 : (.arrayClass .long : Cond) ∈ lw_all := in_all 784 (by decide +kernel) (by decide +kernel)
