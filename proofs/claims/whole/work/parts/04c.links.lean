set_option maxRecDepth 100000 in
theorem cv_X4_mustBeAhead : Cv yX4_mustBeAhead := ⟨bg_of 790 rfl rfl, bg_of 48 rfl rfl⟩
set_option maxRecDepth 100000 in
theorem cy_X5_reset : Cy yX5_reset cX5_reset 3 none 1 := ⟨bg_of 586 rfl rfl, bg_of 105 rfl rfl, (by decide +kernel), by decide⟩
set_option maxRecDepth 100000 in
theorem cv_X5_reset : Cv yX5_reset := ⟨bg_of 585 rfl rfl, bg_of 17 rfl rfl⟩
set_option maxRecDepth 100000 in
theorem cy_X5_placeOf : Cy yX5_placeOf cX5_placeOf 3 (some .int) 1 := ⟨bg_of 836 rfl rfl, bg_of 105 rfl rfl, (by decide +kernel), by decide⟩
set_option maxRecDepth 100000 in
theorem cv_X5_placeOf : Cv yX5_placeOf := ⟨bg_of 835 rfl rfl, bg_of 58 rfl rfl⟩
set_option maxRecDepth 100000 in
theorem cy_X5_start : Cy yX5_start cX5_start 2 none 1 := ⟨bg_of 888 rfl rfl, bg_of 105 rfl rfl, (by decide +kernel), by decide⟩
set_option maxRecDepth 100000 in
theorem cv_X5_start : Cv yX5_start := ⟨bg_of 887 rfl rfl, bg_of 66 rfl rfl⟩
set_option maxRecDepth 100000 in
theorem cy_X5_put : Cy yX5_put cX5_put 4 none 2 := ⟨bg_of 893 rfl rfl, bg_of 105 rfl rfl, (by decide +kernel), by decide⟩
set_option maxRecDepth 100000 in
theorem cv_X5_put : Cv yX5_put := ⟨bg_of 892 rfl rfl, bg_of 67 rfl rfl⟩
set_option maxRecDepth 100000 in
theorem cy_X5_take : Cy yX5_take cX5_take 3 (some .int) 0 := ⟨bg_of 897 rfl rfl, bg_of 105 rfl rfl, (by decide +kernel), by decide⟩
set_option maxRecDepth 100000 in
theorem cv_X5_take : Cv yX5_take := ⟨bg_of 896 rfl rfl, bg_of 68 rfl rfl⟩
set_option maxRecDepth 100000 in
theorem cy_X6_scan : Cy yX6_scan cX6_scan 5 none 2 := ⟨bg_of 548 rfl rfl, bg_of 102 rfl rfl, (by decide +kernel), by decide⟩
set_option maxRecDepth 100000 in
theorem cv_X6_scan : Cv yX6_scan := ⟨bg_of 547 rfl rfl, bg_of 8 rfl rfl⟩
set_option maxRecDepth 100000 in
theorem cy_X6_clear : Cy yX6_clear cX6_clear 2 none 1 := ⟨bg_of 552 rfl rfl, bg_of 102 rfl rfl, (by decide +kernel), by decide⟩
set_option maxRecDepth 100000 in
theorem cv_X6_clear : Cv yX6_clear := ⟨bg_of 551 rfl rfl, bg_of 9 rfl rfl⟩
set_option maxRecDepth 100000 in
theorem cy_X6_note : Cy yX6_note cX6_note 3 none 2 := ⟨bg_of 570 rfl rfl, bg_of 102 rfl rfl, (by decide +kernel), by decide⟩
set_option maxRecDepth 100000 in
theorem cv_X6_note : Cv yX6_note := ⟨bg_of 569 rfl rfl, bg_of 13 rfl rfl⟩
set_option maxRecDepth 100000 in
theorem cy_X6_takeLetter : Cy yX6_takeLetter cX6_takeLetter 3 none 2 := ⟨bg_of 558 rfl rfl, bg_of 102 rfl rfl, (by decide +kernel), by decide⟩
set_option maxRecDepth 100000 in
theorem cv_X6_takeLetter : Cv yX6_takeLetter := ⟨bg_of 557 rfl rfl, bg_of 10 rfl rfl⟩
set_option maxRecDepth 100000 in
theorem cy_X6_startWord : Cy yX6_startWord cX6_startWord 3 none 2 := ⟨bg_of 562 rfl rfl, bg_of 102 rfl rfl, (by decide +kernel), by decide⟩
set_option maxRecDepth 100000 in
theorem cv_X6_startWord : Cv yX6_startWord := ⟨bg_of 561 rfl rfl, bg_of 11 rfl rfl⟩
set_option maxRecDepth 100000 in
theorem cy_X6_startSentence : Cy yX6_startSentence cX6_startSentence 3 none 2 := ⟨bg_of 566 rfl rfl, bg_of 102 rfl rfl, (by decide +kernel), by decide⟩
set_option maxRecDepth 100000 in
theorem cv_X6_startSentence : Cv yX6_startSentence := ⟨bg_of 565 rfl rfl, bg_of 12 rfl rfl⟩
set_option maxRecDepth 100000 in
theorem cy_X6_takeMark : Cy yX6_takeMark cX6_takeMark 4 none 3 := ⟨bg_of 574 rfl rfl, bg_of 102 rfl rfl, (by decide +kernel), by decide⟩
set_option maxRecDepth 100000 in
theorem cv_X6_takeMark : Cv yX6_takeMark := ⟨bg_of 573 rfl rfl, bg_of 14 rfl rfl⟩
set_option maxRecDepth 100000 in
theorem cy_X6_takeLineEnd : Cy yX6_takeLineEnd cX6_takeLineEnd 2 none 1 := ⟨bg_of 578 rfl rfl, bg_of 102 rfl rfl, (by decide +kernel), by decide⟩
set_option maxRecDepth 100000 in
theorem cv_X6_takeLineEnd : Cv yX6_takeLineEnd := ⟨bg_of 577 rfl rfl, bg_of 15 rfl rfl⟩
set_option maxRecDepth 100000 in
theorem cy_X6_takeSentenceEnd : Cy yX6_takeSentenceEnd cX6_takeSentenceEnd 2 none 1 := ⟨bg_of 582 rfl rfl, bg_of 102 rfl rfl, (by decide +kernel), by decide⟩
set_option maxRecDepth 100000 in
theorem cv_X6_takeSentenceEnd : Cv yX6_takeSentenceEnd := ⟨bg_of 581 rfl rfl, bg_of 16 rfl rfl⟩
set_option maxRecDepth 100000 in
theorem cy_X7_append : Cy yX7_append cX7_append 3 none 1 := ⟨bg_of 483 rfl rfl, bg_of 100 rfl rfl, (by decide +kernel), by decide⟩
set_option maxRecDepth 100000 in
theorem cv_X7_append : Cv yX7_append := ⟨bg_of 482 rfl rfl, bg_of 0 rfl rfl⟩
set_option maxRecDepth 100000 in
theorem cy_X7_takeWord : Cy yX7_takeWord cX7_takeWord 4 (some .int) 1 := ⟨bg_of 499 rfl rfl, bg_of 100 rfl rfl, (by decide +kernel), by decide⟩
set_option maxRecDepth 100000 in
theorem cv_X7_takeWord : Cv yX7_takeWord := ⟨bg_of 498 rfl rfl, bg_of 2 rfl rfl⟩
set_option maxRecDepth 100000 in
theorem cy_X8_paragraphs : Cy yX8_paragraphs cX8_paragraphs 1 (some .int) 0 := ⟨bg_of 909 rfl rfl, bg_of 103 rfl rfl, (by decide +kernel), by decide⟩
set_option maxRecDepth 100000 in
theorem cv_X8_paragraphs : Cv yX8_paragraphs := ⟨bg_of 908 rfl rfl, bg_of 69 rfl rfl⟩
set_option maxRecDepth 100000 in
theorem cy_X9_isFull : Cy yX9_isFull cX9_isFull 1 (some .boolean) 0 := ⟨bg_of 524 rfl rfl, bg_of 101 rfl rfl, (by decide +kernel), by decide⟩
set_option maxRecDepth 100000 in
theorem cv_X9_isFull : Cv yX9_isFull := ⟨bg_of 523 rfl rfl, bg_of 6 rfl rfl⟩
set_option maxRecDepth 100000 in
theorem cy_X9_find : Cy yX9_find cX9_find 5 (some .int) 3 := ⟨bg_of 509 rfl rfl, bg_of 101 rfl rfl, (by decide +kernel), by decide⟩
set_option maxRecDepth 100000 in
theorem cv_X9_find : Cv yX9_find := ⟨bg_of 508 rfl rfl, bg_of 3 rfl rfl⟩
set_option maxRecDepth 100000 in
theorem cy_X9_isAt : Cy yX9_isAt cX9_isAt 6 (some .boolean) 3 := ⟨bg_of 513 rfl rfl, bg_of 101 rfl rfl, (by decide +kernel), by decide⟩
set_option maxRecDepth 100000 in
theorem cv_X9_isAt : Cv yX9_isAt := ⟨bg_of 512 rfl rfl, bg_of 4 rfl rfl⟩
set_option maxRecDepth 100000 in
theorem cy_X9_add : Cy yX9_add cX9_add 4 none 3 := ⟨bg_of 528 rfl rfl, bg_of 101 rfl rfl, (by decide +kernel), by decide⟩
set_option maxRecDepth 100000 in
theorem cv_X9_add : Cv yX9_add := ⟨bg_of 527 rfl rfl, bg_of 7 rfl rfl⟩
set_option maxRecDepth 100000 in
theorem cy_X9_drop : Cy yX9_drop cX9_drop 2 none 1 := ⟨bg_of 517 rfl rfl, bg_of 101 rfl rfl, (by decide +kernel), by decide⟩
set_option maxRecDepth 100000 in
theorem cv_X9_drop : Cv yX9_drop := ⟨bg_of 516 rfl rfl, bg_of 5 rfl rfl⟩
set_option maxRecDepth 100000 in
theorem cy_X9_lengthWithout : Cy yX9_lengthWithout cX9_lengthWithout 7 (some .int) 3 := ⟨bg_of 628 rfl rfl, bg_of 101 rfl rfl, (by decide +kernel), by decide⟩
set_option maxRecDepth 100000 in
theorem cv_X9_lengthWithout : Cv yX9_lengthWithout := ⟨bg_of 627 rfl rfl, bg_of 23 rfl rfl⟩
set_option maxRecDepth 100000 in
theorem cy_X10_feed : Cy yX10_feed cX10_feed 6 (some .int) 5 := ⟨bg_of 479 rfl rfl, bg_of 99 rfl rfl, (by decide +kernel), by decide⟩
set_option maxRecDepth 100000 in
theorem cv_X10_feed : Cv yX10_feed := ⟨bg_of 477 rfl rfl, bg_of 478 rfl rfl⟩
set_option maxRecDepth 100000 in
theorem cy_X10_end : Cy yX10_end cX10_end 2 (some .int) 1 := ⟨bg_of 487 rfl rfl, bg_of 99 rfl rfl, (by decide +kernel), by decide⟩
set_option maxRecDepth 100000 in
theorem cv_X10_end : Cv yX10_end := ⟨bg_of 485 rfl rfl, bg_of 486 rfl rfl⟩
set_option maxRecDepth 100000 in
theorem cy_X10_stop : Cy yX10_stop cX10_stop 1 (some .int) 0 := ⟨bg_of 491 rfl rfl, bg_of 99 rfl rfl, (by decide +kernel), by decide⟩
set_option maxRecDepth 100000 in
theorem cv_X10_stop : Cv yX10_stop := ⟨bg_of 489 rfl rfl, bg_of 490 rfl rfl⟩
set_option maxRecDepth 100000 in
theorem cy_X10_sign : Cy yX10_sign cX10_sign 4 (some .int) 1 := ⟨bg_of 532 rfl rfl, bg_of 99 rfl rfl, (by decide +kernel), by decide⟩
set_option maxRecDepth 100000 in
theorem cv_X10_sign : Cv yX10_sign := ⟨bg_of 530 rfl rfl, bg_of 531 rfl rfl⟩
set_option maxRecDepth 100000 in
theorem cy_X10_ending : Cy yX10_ending cX10_ending 1 (some .int) 0 := ⟨bg_of 536 rfl rfl, bg_of 99 rfl rfl, (by decide +kernel), by decide⟩
set_option maxRecDepth 100000 in
theorem cv_X10_ending : Cv yX10_ending := ⟨bg_of 534 rfl rfl, bg_of 535 rfl rfl⟩
set_option maxRecDepth 100000 in
theorem cy_X10_weight : Cy yX10_weight cX10_weight 4 (some .int) 2 := ⟨bg_of 540 rfl rfl, bg_of 99 rfl rfl, (by decide +kernel), by decide⟩
set_option maxRecDepth 100000 in
theorem cv_X10_weight : Cv yX10_weight := ⟨bg_of 538 rfl rfl, bg_of 539 rfl rfl⟩
set_option maxRecDepth 100000 in
theorem cy_X10_toggle : Cy yX10_toggle cX10_toggle 4 (some .int) 1 := ⟨bg_of 495 rfl rfl, bg_of 99 rfl rfl, (by decide +kernel), by decide⟩
set_option maxRecDepth 100000 in
theorem cv_X10_toggle : Cv yX10_toggle := ⟨bg_of 494 rfl rfl, bg_of 1 rfl rfl⟩
set_option maxRecDepth 100000 in
theorem cy_X10_read : Cy yX10_read cX10_read 2 (some .int) 0 := ⟨bg_of 544 rfl rfl, bg_of 99 rfl rfl, (by decide +kernel), by decide⟩
set_option maxRecDepth 100000 in
theorem cv_X10_read : Cv yX10_read := ⟨bg_of 542 rfl rfl, bg_of 543 rfl rfl⟩
set_option maxRecDepth 100000 in
theorem cy_X10_fault : Cy yX10_fault cX10_fault 2 (some .int) 1 := ⟨bg_of 593 rfl rfl, bg_of 99 rfl rfl, (by decide +kernel), by decide⟩
set_option maxRecDepth 100000 in
theorem cv_X10_fault : Cv yX10_fault := ⟨bg_of 591 rfl rfl, bg_of 592 rfl rfl⟩
set_option maxRecDepth 100000 in
theorem cy_X10_sentence : Cy yX10_sentence cX10_sentence 4 (some .int) 2 := ⟨bg_of 597 rfl rfl, bg_of 99 rfl rfl, (by decide +kernel), by decide⟩
set_option maxRecDepth 100000 in
theorem cv_X10_sentence : Cv yX10_sentence := ⟨bg_of 595 rfl rfl, bg_of 596 rfl rfl⟩
set_option maxRecDepth 100000 in
theorem cy_X10_word : Cy yX10_word cX10_word 6 (some .int) 3 := ⟨bg_of 730 rfl rfl, bg_of 99 rfl rfl, (by decide +kernel), by decide⟩
set_option maxRecDepth 100000 in
theorem cv_X10_word : Cv yX10_word := ⟨bg_of 728 rfl rfl, bg_of 729 rfl rfl⟩
set_option maxRecDepth 100000 in
theorem cy_X10_shared : Cy yX10_shared cX10_shared 3 (some .int) 2 := ⟨bg_of 734 rfl rfl, bg_of 99 rfl rfl, (by decide +kernel), by decide⟩
set_option maxRecDepth 100000 in
theorem cv_X10_shared : Cv yX10_shared := ⟨bg_of 732 rfl rfl, bg_of 733 rfl rfl⟩
set_option maxRecDepth 100000 in
theorem cy_X10_isNoSentence : Cy yX10_isNoSentence cX10_isNoSentence 2 (some .boolean) 1 := ⟨bg_of 601 rfl rfl, bg_of 99 rfl rfl, (by decide +kernel), by decide⟩
set_option maxRecDepth 100000 in
theorem cv_X10_isNoSentence : Cv yX10_isNoSentence := ⟨bg_of 600 rfl rfl, bg_of 18 rfl rfl⟩
set_option maxRecDepth 100000 in
theorem cy_X10_sharedKeys : Cy yX10_sharedKeys cX10_sharedKeys 3 (some .int) 2 := ⟨bg_of 675 rfl rfl, bg_of 99 rfl rfl, (by decide +kernel), by decide⟩
set_option maxRecDepth 100000 in
theorem cv_X10_sharedKeys : Cv yX10_sharedKeys := ⟨bg_of 674 rfl rfl, bg_of 31 rfl rfl⟩
set_option maxRecDepth 100000 in
theorem cy_X10_kindAt : Cy yX10_kindAt cX10_kindAt 2 (some .int) 1 := ⟨bg_of 661 rfl rfl, bg_of 99 rfl rfl, (by decide +kernel), by decide⟩
set_option maxRecDepth 100000 in
theorem cv_X10_kindAt : Cv yX10_kindAt := ⟨bg_of 660 rfl rfl, bg_of 29 rfl rfl⟩
set_option maxRecDepth 100000 in
theorem cy_X10_refreshKeys : Cy yX10_refreshKeys cX10_refreshKeys 1 none 0 := ⟨bg_of 609 rfl rfl, bg_of 99 rfl rfl, (by decide +kernel), by decide⟩
set_option maxRecDepth 100000 in
theorem cv_X10_refreshKeys : Cv yX10_refreshKeys := ⟨bg_of 608 rfl rfl, bg_of 20 rfl rfl⟩
set_option maxRecDepth 100000 in
theorem cy_X10_cost : Cy yX10_cost cX10_cost 3 (some .int) 2 := ⟨bg_of 738 rfl rfl, bg_of 99 rfl rfl, (by decide +kernel), by decide⟩
set_option maxRecDepth 100000 in
theorem cv_X10_cost : Cv yX10_cost := ⟨bg_of 736 rfl rfl, bg_of 737 rfl rfl⟩
set_option maxRecDepth 100000 in
theorem cy_X10_tree : Cy yX10_tree cX10_tree 1 (some .int) 0 := ⟨bg_of 742 rfl rfl, bg_of 99 rfl rfl, (by decide +kernel), by decide⟩
set_option maxRecDepth 100000 in
theorem cv_X10_tree : Cv yX10_tree := ⟨bg_of 740 rfl rfl, bg_of 741 rfl rfl⟩
set_option maxRecDepth 100000 in
theorem cy_X10_next : Cy yX10_next cX10_next 2 (some .int) 0 := ⟨bg_of 750 rfl rfl, bg_of 99 rfl rfl, (by decide +kernel), by decide⟩
set_option maxRecDepth 100000 in
theorem cv_X10_next : Cv yX10_next := ⟨bg_of 748 rfl rfl, bg_of 749 rfl rfl⟩
set_option maxRecDepth 100000 in
theorem cy_X10_finding : Cy yX10_finding cX10_finding 2 (some .int) 1 := ⟨bg_of 759 rfl rfl, bg_of 99 rfl rfl, (by decide +kernel), by decide⟩
set_option maxRecDepth 100000 in
theorem cv_X10_finding : Cv yX10_finding := ⟨bg_of 757 rfl rfl, bg_of 758 rfl rfl⟩
set_option maxRecDepth 100000 in
theorem cy_X10_marks : Cy yX10_marks cX10_marks 9 (some .int) 5 := ⟨bg_of 780 rfl rfl, bg_of 99 rfl rfl, (by decide +kernel), by decide⟩
set_option maxRecDepth 100000 in
theorem cv_X10_marks : Cv yX10_marks := ⟨bg_of 778 rfl rfl, bg_of 779 rfl rfl⟩
set_option maxRecDepth 100000 in
theorem cy_X10_refresh : Cy yX10_refresh cX10_refresh 1 none 0 := ⟨bg_of 605 rfl rfl, bg_of 99 rfl rfl, (by decide +kernel), by decide⟩
set_option maxRecDepth 100000 in
theorem cv_X10_refresh : Cv yX10_refresh := ⟨bg_of 604 rfl rfl, bg_of 19 rfl rfl⟩
set_option maxRecDepth 100000 in
theorem cy_X10_growTree : Cy yX10_growTree cX10_growTree 4 none 0 := ⟨bg_of 657 rfl rfl, bg_of 99 rfl rfl, (by decide +kernel), by decide⟩
set_option maxRecDepth 100000 in
theorem cv_X10_growTree : Cv yX10_growTree := ⟨bg_of 656 rfl rfl, bg_of 28 rfl rfl⟩
set_option maxRecDepth 100000 in
theorem cy_X10_hangCost : Cy yX10_hangCost cX10_hangCost 6 (some .int) 2 := ⟨bg_of 668 rfl rfl, bg_of 99 rfl rfl, (by decide +kernel), by decide⟩
set_option maxRecDepth 100000 in
theorem cv_X10_hangCost : Cv yX10_hangCost := ⟨bg_of 667 rfl rfl, bg_of 30 rfl rfl⟩
set_option maxRecDepth 100000 in
theorem cy_X10_isAgainstSign : Cy yX10_isAgainstSign cX10_isAgainstSign 3 (some .boolean) 2 := ⟨bg_of 680 rfl rfl, bg_of 99 rfl rfl, (by decide +kernel), by decide⟩
set_option maxRecDepth 100000 in
theorem cv_X10_isAgainstSign : Cv yX10_isAgainstSign := ⟨bg_of 679 rfl rfl, bg_of 32 rfl rfl⟩
set_option maxRecDepth 100000 in
theorem cy_X10_isBound : Cy yX10_isBound cX10_isBound 1 (some .boolean) 1 := ⟨bg_of 664 rfl rfl, bg_of 99 rfl rfl, (by decide +kernel), by decide⟩
set_option maxRecDepth 100000 in
theorem cs_X10_isBound : Cs yX10_isBound := bg_of 663 rfl rfl
set_option maxRecDepth 100000 in
theorem cy_X10_isNoPoint : Cy yX10_isNoPoint cX10_isNoPoint 1 (some .boolean) 1 := ⟨bg_of 783 rfl rfl, bg_of 99 rfl rfl, (by decide +kernel), by decide⟩
set_option maxRecDepth 100000 in
theorem cs_X10_isNoPoint : Cs yX10_isNoPoint := bg_of 782 rfl rfl
set_option maxRecDepth 100000 in
theorem cy_X10_findings : Cy yX10_findings cX10_findings 4 (some .int) 1 := ⟨bg_of 763 rfl rfl, bg_of 99 rfl rfl, (by decide +kernel), by decide⟩
set_option maxRecDepth 100000 in
theorem cv_X10_findings : Cv yX10_findings := ⟨bg_of 762 rfl rfl, bg_of 44 rfl rfl⟩
set_option maxRecDepth 100000 in
theorem cy_X10_hasSupport : Cy yX10_hasSupport cX10_hasSupport 4 (some .boolean) 1 := ⟨bg_of 767 rfl rfl, bg_of 99 rfl rfl, (by decide +kernel), by decide⟩
set_option maxRecDepth 100000 in
theorem cv_X10_hasSupport : Cv yX10_hasSupport := ⟨bg_of 766 rfl rfl, bg_of 45 rfl rfl⟩
set_option maxRecDepth 100000 in
theorem cy_X10_isToldTwice : Cy yX10_isToldTwice cX10_isToldTwice 5 (some .boolean) 1 := ⟨bg_of 771 rfl rfl, bg_of 99 rfl rfl, (by decide +kernel), by decide⟩
set_option maxRecDepth 100000 in
theorem cv_X10_isToldTwice : Cv yX10_isToldTwice := ⟨bg_of 770 rfl rfl, bg_of 46 rfl rfl⟩
set_option maxRecDepth 100000 in
theorem cy_X10_pair : Cy yX10_pair cX10_pair 5 (some .int) 2 := ⟨bg_of 787 rfl rfl, bg_of 99 rfl rfl, (by decide +kernel), by decide⟩
set_option maxRecDepth 100000 in
theorem cv_X10_pair : Cv yX10_pair := ⟨bg_of 785 rfl rfl, bg_of 786 rfl rfl⟩
set_option maxRecDepth 100000 in
theorem cy_X10_order : Cy yX10_order cX10_order 3 (some .int) 1 := ⟨bg_of 803 rfl rfl, bg_of 99 rfl rfl, (by decide +kernel), by decide⟩
set_option maxRecDepth 100000 in
theorem cv_X10_order : Cv yX10_order := ⟨bg_of 801 rfl rfl, bg_of 802 rfl rfl⟩
set_option maxRecDepth 100000 in
theorem cy_X10_ordered : Cy yX10_ordered cX10_ordered 2 (some .int) 1 := ⟨bg_of 876 rfl rfl, bg_of 99 rfl rfl, (by decide +kernel), by decide⟩
set_option maxRecDepth 100000 in
theorem cv_X10_ordered : Cv yX10_ordered := ⟨bg_of 874 rfl rfl, bg_of 875 rfl rfl⟩
set_option maxRecDepth 100000 in
theorem cy_X10_stands : Cy yX10_stands cX10_stands 4 (some .int) 1 := ⟨bg_of 880 rfl rfl, bg_of 99 rfl rfl, (by decide +kernel), by decide⟩
set_option maxRecDepth 100000 in
theorem cv_X10_stands : Cv yX10_stands := ⟨bg_of 878 rfl rfl, bg_of 879 rfl rfl⟩
set_option maxRecDepth 100000 in
theorem cy_X10_arrange : Cy yX10_arrange cX10_arrange 4 (some .int) 1 := ⟨bg_of 884 rfl rfl, bg_of 99 rfl rfl, (by decide +kernel), by decide⟩
set_option maxRecDepth 100000 in
theorem cv_X10_arrange : Cv yX10_arrange := ⟨bg_of 882 rfl rfl, bg_of 883 rfl rfl⟩
set_option maxRecDepth 100000 in
theorem cy_X10_move : Cy yX10_move cX10_move 6 (some .int) 2 := ⟨bg_of 901 rfl rfl, bg_of 99 rfl rfl, (by decide +kernel), by decide⟩
set_option maxRecDepth 100000 in
theorem cv_X10_move : Cv yX10_move := ⟨bg_of 899 rfl rfl, bg_of 900 rfl rfl⟩
set_option maxRecDepth 100000 in
theorem cy_X10_count : Cy yX10_count cX10_count 2 (some .int) 1 := ⟨bg_of 905 rfl rfl, bg_of 99 rfl rfl, (by decide +kernel), by decide⟩
set_option maxRecDepth 100000 in
theorem cv_X10_count : Cv yX10_count := ⟨bg_of 903 rfl rfl, bg_of 904 rfl rfl⟩
set_option maxRecDepth 100000 in
theorem cy_X10_rootPlace : Cy yX10_rootPlace cX10_rootPlace 1 (some .int) 0 := ⟨bg_of 913 rfl rfl, bg_of 99 rfl rfl, (by decide +kernel), by decide⟩
set_option maxRecDepth 100000 in
theorem cv_X10_rootPlace : Cv yX10_rootPlace := ⟨bg_of 912 rfl rfl, bg_of 70 rfl rfl⟩
set_option maxRecDepth 100000 in
theorem cy_X10_findOrder : Cy yX10_findOrder cX10_findOrder 3 (some .int) 1 := ⟨bg_of 807 rfl rfl, bg_of 99 rfl rfl, (by decide +kernel), by decide⟩
set_option maxRecDepth 100000 in
theorem cv_X10_findOrder : Cv yX10_findOrder := ⟨bg_of 806 rfl rfl, bg_of 51 rfl rfl⟩
set_option maxRecDepth 100000 in
theorem cy_X10_bindUnits : Cy yX10_bindUnits cX10_bindUnits 4 none 1 := ⟨bg_of 824 rfl rfl, bg_of 99 rfl rfl, (by decide +kernel), by decide⟩
set_option maxRecDepth 100000 in
theorem cv_X10_bindUnits : Cv yX10_bindUnits := ⟨bg_of 823 rfl rfl, bg_of 55 rfl rfl⟩
set_option maxRecDepth 100000 in
theorem cy_X10_smallLetter : Cy yX10_smallLetter cX10_smallLetter 1 (some .int) 1 := ⟨bg_of 502 rfl rfl, bg_of 99 rfl rfl, (by decide +kernel), by decide⟩
set_option maxRecDepth 100000 in
theorem cs_X10_smallLetter : Cs yX10_smallLetter := bg_of 501 rfl rfl
set_option maxRecDepth 100000 in
theorem cy_X10_isOfWords : Cy yX10_isOfWords cX10_isOfWords 1 (some .boolean) 1 := ⟨bg_of 505 rfl rfl, bg_of 99 rfl rfl, (by decide +kernel), by decide⟩
set_option maxRecDepth 100000 in
theorem cs_X10_isOfWords : Cs yX10_isOfWords := bg_of 504 rfl rfl
set_option maxRecDepth 100000 in
theorem cy_X11_in : Cy yX11_in cX11_in 3 (some .boolean) 3 := ⟨bg_of 1106 rfl rfl, bg_of 110 rfl rfl, (by decide +kernel), by decide⟩
set_option maxRecDepth 100000 in
theorem cs_X11_in : Cs yX11_in := bg_of 1105 rfl rfl
set_option maxRecDepth 100000 in
theorem cy_X11_feed : Cy yX11_feed cX11_feed 9 (some .int) 5 := ⟨bg_of 1091 rfl rfl, bg_of 110 rfl rfl, (by decide +kernel), by decide⟩
set_option maxRecDepth 100000 in
theorem cv_X11_feed : Cv yX11_feed := ⟨bg_of 1089 rfl rfl, bg_of 1090 rfl rfl⟩
set_option maxRecDepth 100000 in
theorem cy_X11_end : Cy yX11_end cX11_end 2 (some .int) 1 := ⟨bg_of 1095 rfl rfl, bg_of 110 rfl rfl, (by decide +kernel), by decide⟩
set_option maxRecDepth 100000 in
theorem cv_X11_end : Cv yX11_end := ⟨bg_of 1093 rfl rfl, bg_of 1094 rfl rfl⟩
set_option maxRecDepth 100000 in
theorem cy_X11_isOfWord : Cy yX11_isOfWord cX11_isOfWord 1 (some .boolean) 1 := ⟨bg_of 1109 rfl rfl, bg_of 110 rfl rfl, (by decide +kernel), by decide⟩
set_option maxRecDepth 100000 in
theorem cs_X11_isOfWord : Cs yX11_isOfWord := bg_of 1108 rfl rfl
set_option maxRecDepth 100000 in
theorem cy_X11_small : Cy yX11_small cX11_small 1 (some .int) 1 := ⟨bg_of 1112 rfl rfl, bg_of 110 rfl rfl, (by decide +kernel), by decide⟩
set_option maxRecDepth 100000 in
theorem cs_X11_small : Cs yX11_small := bg_of 1111 rfl rfl
set_option maxRecDepth 100000 in
theorem cy_X11_takeWord : Cy yX11_takeWord cX11_takeWord 4 (some .boolean) 1 := ⟨bg_of 1103 rfl rfl, bg_of 110 rfl rfl, (by decide +kernel), by decide⟩
set_option maxRecDepth 100000 in
theorem cv_X11_takeWord : Cv yX11_takeWord := ⟨bg_of 1102 rfl rfl, bg_of 71 rfl rfl⟩
set_option maxRecDepth 100000 in
theorem cy_X11_isLike : Cy yX11_isLike cX11_isLike 7 (some .boolean) 6 := ⟨bg_of 1118 rfl rfl, bg_of 110 rfl rfl, (by decide +kernel), by decide⟩
set_option maxRecDepth 100000 in
theorem cs_X11_isLike : Cs yX11_isLike := bg_of 1117 rfl rfl
set_option maxRecDepth 100000 in
theorem cy_X11_find : Cy yX11_find cX11_find 7 (some .int) 6 := ⟨bg_of 1115 rfl rfl, bg_of 110 rfl rfl, (by decide +kernel), by decide⟩
set_option maxRecDepth 100000 in
theorem cs_X11_find : Cs yX11_find := bg_of 1114 rfl rfl
set_option maxRecDepth 100000 in
theorem cy_X11_put : Cy yX11_put cX11_put 5 none 3 := ⟨bg_of 1122 rfl rfl, bg_of 110 rfl rfl, (by decide +kernel), by decide⟩
set_option maxRecDepth 100000 in
theorem cv_X11_put : Cv yX11_put := ⟨bg_of 1121 rfl rfl, bg_of 72 rfl rfl⟩
set_option maxRecDepth 100000 in
theorem cy_X11_takeAway : Cy yX11_takeAway cX11_takeAway 5 none 4 := ⟨bg_of 1125 rfl rfl, bg_of 110 rfl rfl, (by decide +kernel), by decide⟩
set_option maxRecDepth 100000 in
theorem cs_X11_takeAway : Cs yX11_takeAway := bg_of 1124 rfl rfl
set_option maxRecDepth 100000 in
theorem cy_X11_stop : Cy yX11_stop cX11_stop 2 (some .int) 0 := ⟨bg_of 1099 rfl rfl, bg_of 110 rfl rfl, (by decide +kernel), by decide⟩
set_option maxRecDepth 100000 in
theorem cv_X11_stop : Cv yX11_stop := ⟨bg_of 1097 rfl rfl, bg_of 1098 rfl rfl⟩
set_option maxRecDepth 100000 in
theorem cy_X11_sign : Cy yX11_sign cX11_sign 3 (some .int) 1 := ⟨bg_of 1129 rfl rfl, bg_of 110 rfl rfl, (by decide +kernel), by decide⟩
set_option maxRecDepth 100000 in
theorem cv_X11_sign : Cv yX11_sign := ⟨bg_of 1127 rfl rfl, bg_of 1128 rfl rfl⟩
set_option maxRecDepth 100000 in
theorem cy_X11_ending : Cy yX11_ending cX11_ending 2 (some .int) 0 := ⟨bg_of 1133 rfl rfl, bg_of 110 rfl rfl, (by decide +kernel), by decide⟩
set_option maxRecDepth 100000 in
theorem cv_X11_ending : Cv yX11_ending := ⟨bg_of 1131 rfl rfl, bg_of 1132 rfl rfl⟩
set_option maxRecDepth 100000 in
theorem cy_X11_weight : Cy yX11_weight cX11_weight 4 (some .int) 2 := ⟨bg_of 1137 rfl rfl, bg_of 110 rfl rfl, (by decide +kernel), by decide⟩
set_option maxRecDepth 100000 in
theorem cv_X11_weight : Cv yX11_weight := ⟨bg_of 1135 rfl rfl, bg_of 1136 rfl rfl⟩
set_option maxRecDepth 100000 in
theorem cy_X11_wrong : Cy yX11_wrong cX11_wrong 3 (some .int) 2 := ⟨bg_of 1149 rfl rfl, bg_of 110 rfl rfl, (by decide +kernel), by decide⟩
set_option maxRecDepth 100000 in
theorem cv_X11_wrong : Cv yX11_wrong := ⟨bg_of 1148 rfl rfl, bg_of 74 rfl rfl⟩
set_option maxRecDepth 100000 in
theorem cy_X11_reads : Cy yX11_reads cX11_reads 11 (some .int) 1 := ⟨bg_of 1145 rfl rfl, bg_of 110 rfl rfl, (by decide +kernel), by decide⟩
set_option maxRecDepth 100000 in
theorem cv_X11_reads : Cv yX11_reads := ⟨bg_of 1144 rfl rfl, bg_of 73 rfl rfl⟩
set_option maxRecDepth 100000 in
theorem cy_X11_read : Cy yX11_read cX11_read 6 (some .int) 0 := ⟨bg_of 1141 rfl rfl, bg_of 110 rfl rfl, (by decide +kernel), by decide⟩
set_option maxRecDepth 100000 in
theorem cv_X11_read : Cv yX11_read := ⟨bg_of 1139 rfl rfl, bg_of 1140 rfl rfl⟩
set_option maxRecDepth 100000 in
theorem cy_X11_fault : Cy yX11_fault cX11_fault 2 (some .int) 1 := ⟨bg_of 1153 rfl rfl, bg_of 110 rfl rfl, (by decide +kernel), by decide⟩
set_option maxRecDepth 100000 in
theorem cv_X11_fault : Cv yX11_fault := ⟨bg_of 1151 rfl rfl, bg_of 1152 rfl rfl⟩
set_option maxRecDepth 100000 in
theorem cy_X11_isHere : Cy yX11_isHere cX11_isHere 2 (some .boolean) 1 := ⟨bg_of 1161 rfl rfl, bg_of 110 rfl rfl, (by decide +kernel), by decide⟩
set_option maxRecDepth 100000 in
theorem cv_X11_isHere : Cv yX11_isHere := ⟨bg_of 1160 rfl rfl, bg_of 75 rfl rfl⟩
set_option maxRecDepth 100000 in
theorem cy_X11_folded : Cy yX11_folded cX11_folded 5 (some .int) 1 := ⟨bg_of 1173 rfl rfl, bg_of 110 rfl rfl, (by decide +kernel), by decide⟩
set_option maxRecDepth 100000 in
theorem cv_X11_folded : Cv yX11_folded := ⟨bg_of 1172 rfl rfl, bg_of 78 rfl rfl⟩
set_option maxRecDepth 100000 in
theorem cy_X11_sameKey : Cy yX11_sameKey cX11_sameKey 5 (some .boolean) 4 := ⟨bg_of 1177 rfl rfl, bg_of 110 rfl rfl, (by decide +kernel), by decide⟩
set_option maxRecDepth 100000 in
theorem cv_X11_sameKey : Cv yX11_sameKey := ⟨bg_of 1176 rfl rfl, bg_of 79 rfl rfl⟩
set_option maxRecDepth 100000 in
theorem cy_X11_makeKeys : Cy yX11_makeKeys cX11_makeKeys 9 none 1 := ⟨bg_of 1169 rfl rfl, bg_of 110 rfl rfl, (by decide +kernel), by decide⟩
set_option maxRecDepth 100000 in
theorem cv_X11_makeKeys : Cv yX11_makeKeys := ⟨bg_of 1168 rfl rfl, bg_of 77 rfl rfl⟩
set_option maxRecDepth 100000 in
theorem cy_X11_hasKey : Cy yX11_hasKey cX11_hasKey 5 (some .boolean) 3 := ⟨bg_of 1190 rfl rfl, bg_of 110 rfl rfl, (by decide +kernel), by decide⟩
set_option maxRecDepth 100000 in
theorem cv_X11_hasKey : Cv yX11_hasKey := ⟨bg_of 1189 rfl rfl, bg_of 82 rfl rfl⟩
set_option maxRecDepth 100000 in
theorem cy_X11_sharedBy : Cy yX11_sharedBy cX11_sharedBy 5 (some .int) 2 := ⟨bg_of 1186 rfl rfl, bg_of 110 rfl rfl, (by decide +kernel), by decide⟩
set_option maxRecDepth 100000 in
theorem cv_X11_sharedBy : Cv yX11_sharedBy := ⟨bg_of 1185 rfl rfl, bg_of 81 rfl rfl⟩
set_option maxRecDepth 100000 in
theorem cy_X11_priceOf : Cy yX11_priceOf cX11_priceOf 7 (some .int) 2 := ⟨bg_of 1182 rfl rfl, bg_of 110 rfl rfl, (by decide +kernel), by decide⟩
set_option maxRecDepth 100000 in
theorem cv_X11_priceOf : Cv yX11_priceOf := ⟨bg_of 1181 rfl rfl, bg_of 80 rfl rfl⟩
set_option maxRecDepth 100000 in
theorem cy_X11_arc : Cy yX11_arc cX11_arc 3 (some .int) 2 := ⟨bg_of 1202 rfl rfl, bg_of 110 rfl rfl, (by decide +kernel), by decide⟩
set_option maxRecDepth 100000 in
theorem cv_X11_arc : Cv yX11_arc := ⟨bg_of 1201 rfl rfl, bg_of 85 rfl rfl⟩
set_option maxRecDepth 100000 in
theorem cy_X11_least : Cy yX11_least cX11_least 8 (some .int) 0 := ⟨bg_of 1198 rfl rfl, bg_of 110 rfl rfl, (by decide +kernel), by decide⟩
set_option maxRecDepth 100000 in
theorem cv_X11_least : Cv yX11_least := ⟨bg_of 1197 rfl rfl, bg_of 84 rfl rfl⟩
set_option maxRecDepth 100000 in
theorem cy_X11_allMay : Cy yX11_allMay cX11_allMay 2 none 0 := ⟨bg_of 1194 rfl rfl, bg_of 110 rfl rfl, (by decide +kernel), by decide⟩
set_option maxRecDepth 100000 in
theorem cv_X11_allMay : Cv yX11_allMay := ⟨bg_of 1193 rfl rfl, bg_of 83 rfl rfl⟩
set_option maxRecDepth 100000 in
theorem cy_X11_fix : Cy yX11_fix cX11_fix 4 none 2 := ⟨bg_of 1206 rfl rfl, bg_of 110 rfl rfl, (by decide +kernel), by decide⟩
set_option maxRecDepth 100000 in
theorem cv_X11_fix : Cv yX11_fix := ⟨bg_of 1205 rfl rfl, bg_of 86 rfl rfl⟩
set_option maxRecDepth 100000 in
theorem cy_X11_makeTree : Cy yX11_makeTree cX11_makeTree 3 none 0 := ⟨bg_of 1165 rfl rfl, bg_of 110 rfl rfl, (by decide +kernel), by decide⟩
set_option maxRecDepth 100000 in
theorem cv_X11_makeTree : Cv yX11_makeTree := ⟨bg_of 1164 rfl rfl, bg_of 76 rfl rfl⟩
set_option maxRecDepth 100000 in
theorem cy_X11_isOf : Cy yX11_isOf cX11_isOf 4 (some .boolean) 2 := ⟨bg_of 1218 rfl rfl, bg_of 110 rfl rfl, (by decide +kernel), by decide⟩
set_option maxRecDepth 100000 in
theorem cv_X11_isOf : Cv yX11_isOf := ⟨bg_of 1217 rfl rfl, bg_of 89 rfl rfl⟩
set_option maxRecDepth 100000 in
theorem cy_X11_hanging : Cy yX11_hanging cX11_hanging 4 (some .int) 1 := ⟨bg_of 1210 rfl rfl, bg_of 110 rfl rfl, (by decide +kernel), by decide⟩
set_option maxRecDepth 100000 in
theorem cv_X11_hanging : Cv yX11_hanging := ⟨bg_of 1209 rfl rfl, bg_of 87 rfl rfl⟩
set_option maxRecDepth 100000 in
theorem cy_X11_partSize : Cy yX11_partSize cX11_partSize 4 (some .int) 1 := ⟨bg_of 1214 rfl rfl, bg_of 110 rfl rfl, (by decide +kernel), by decide⟩
set_option maxRecDepth 100000 in
theorem cv_X11_partSize : Cv yX11_partSize := ⟨bg_of 1213 rfl rfl, bg_of 88 rfl rfl⟩
set_option maxRecDepth 100000 in
theorem cy_X11_partBegin : Cy yX11_partBegin cX11_partBegin 3 (some .int) 1 := ⟨bg_of 1273 rfl rfl, bg_of 110 rfl rfl, (by decide +kernel), by decide⟩
set_option maxRecDepth 100000 in
theorem cv_X11_partBegin : Cv yX11_partBegin := ⟨bg_of 1272 rfl rfl, bg_of 93 rfl rfl⟩
set_option maxRecDepth 100000 in
theorem cy_X11_sentence : Cy yX11_sentence cX11_sentence 3 (some .int) 2 := ⟨bg_of 1157 rfl rfl, bg_of 110 rfl rfl, (by decide +kernel), by decide⟩
set_option maxRecDepth 100000 in
theorem cv_X11_sentence : Cv yX11_sentence := ⟨bg_of 1155 rfl rfl, bg_of 1156 rfl rfl⟩
set_option maxRecDepth 100000 in
theorem cy_X11_word : Cy yX11_word cX11_word 4 (some .int) 3 := ⟨bg_of 1222 rfl rfl, bg_of 110 rfl rfl, (by decide +kernel), by decide⟩
set_option maxRecDepth 100000 in
theorem cv_X11_word : Cv yX11_word := ⟨bg_of 1220 rfl rfl, bg_of 1221 rfl rfl⟩
set_option maxRecDepth 100000 in
theorem cy_X11_shared : Cy yX11_shared cX11_shared 3 (some .int) 2 := ⟨bg_of 1226 rfl rfl, bg_of 110 rfl rfl, (by decide +kernel), by decide⟩
set_option maxRecDepth 100000 in
theorem cv_X11_shared : Cv yX11_shared := ⟨bg_of 1224 rfl rfl, bg_of 1225 rfl rfl⟩
set_option maxRecDepth 100000 in
theorem cy_X11_cost : Cy yX11_cost cX11_cost 3 (some .int) 2 := ⟨bg_of 1230 rfl rfl, bg_of 110 rfl rfl, (by decide +kernel), by decide⟩
set_option maxRecDepth 100000 in
theorem cv_X11_cost : Cv yX11_cost := ⟨bg_of 1228 rfl rfl, bg_of 1229 rfl rfl⟩
set_option maxRecDepth 100000 in
theorem cy_X11_tree : Cy yX11_tree cX11_tree 1 (some .int) 0 := ⟨bg_of 1234 rfl rfl, bg_of 110 rfl rfl, (by decide +kernel), by decide⟩
set_option maxRecDepth 100000 in
theorem cv_X11_tree : Cv yX11_tree := ⟨bg_of 1232 rfl rfl, bg_of 1233 rfl rfl⟩
set_option maxRecDepth 100000 in
theorem cy_X11_next : Cy yX11_next cX11_next 1 (some .int) 0 := ⟨bg_of 1238 rfl rfl, bg_of 110 rfl rfl, (by decide +kernel), by decide⟩
set_option maxRecDepth 100000 in
theorem cv_X11_next : Cv yX11_next := ⟨bg_of 1236 rfl rfl, bg_of 1237 rfl rfl⟩
set_option maxRecDepth 100000 in
theorem cy_X11_findingOf : Cy yX11_findingOf cX11_findingOf 8 (some .int) 1 := ⟨bg_of 1246 rfl rfl, bg_of 110 rfl rfl, (by decide +kernel), by decide⟩
set_option maxRecDepth 100000 in
theorem cv_X11_findingOf : Cv yX11_findingOf := ⟨bg_of 1245 rfl rfl, bg_of 90 rfl rfl⟩
set_option maxRecDepth 100000 in
theorem cy_X11_finding : Cy yX11_finding cX11_finding 2 (some .int) 1 := ⟨bg_of 1242 rfl rfl, bg_of 110 rfl rfl, (by decide +kernel), by decide⟩
set_option maxRecDepth 100000 in
theorem cv_X11_finding : Cv yX11_finding := ⟨bg_of 1240 rfl rfl, bg_of 1241 rfl rfl⟩
set_option maxRecDepth 100000 in
theorem cy_X11_isPoint : Cy yX11_isPoint cX11_isPoint 1 (some .boolean) 1 := ⟨bg_of 1253 rfl rfl, bg_of 110 rfl rfl, (by decide +kernel), by decide⟩
set_option maxRecDepth 100000 in
theorem cs_X11_isPoint : Cs yX11_isPoint := bg_of 1252 rfl rfl
set_option maxRecDepth 100000 in
theorem cy_X11_marks : Cy yX11_marks cX11_marks 9 (some .int) 5 := ⟨bg_of 1250 rfl rfl, bg_of 110 rfl rfl, (by decide +kernel), by decide⟩
set_option maxRecDepth 100000 in
theorem cv_X11_marks : Cv yX11_marks := ⟨bg_of 1248 rfl rfl, bg_of 1249 rfl rfl⟩
set_option maxRecDepth 100000 in
theorem cy_X11_isAhead : Cy yX11_isAhead cX11_isAhead 7 (some .boolean) 2 := ⟨bg_of 1261 rfl rfl, bg_of 110 rfl rfl, (by decide +kernel), by decide⟩
set_option maxRecDepth 100000 in
theorem cv_X11_isAhead : Cv yX11_isAhead := ⟨bg_of 1260 rfl rfl, bg_of 91 rfl rfl⟩
set_option maxRecDepth 100000 in
theorem cy_X11_pair : Cy yX11_pair cX11_pair 4 (some .int) 2 := ⟨bg_of 1257 rfl rfl, bg_of 110 rfl rfl, (by decide +kernel), by decide⟩
set_option maxRecDepth 100000 in
theorem cv_X11_pair : Cv yX11_pair := ⟨bg_of 1255 rfl rfl, bg_of 1256 rfl rfl⟩
set_option maxRecDepth 100000 in
theorem cy_X11_itemOf : Cy yX11_itemOf cX11_itemOf 4 (some .int) 2 := ⟨bg_of 1277 rfl rfl, bg_of 110 rfl rfl, (by decide +kernel), by decide⟩
set_option maxRecDepth 100000 in
theorem cv_X11_itemOf : Cv yX11_itemOf := ⟨bg_of 1276 rfl rfl, bg_of 94 rfl rfl⟩
set_option maxRecDepth 100000 in
theorem cy_X11_takeItems : Cy yX11_takeItems cX11_takeItems 6 (some .boolean) 1 := ⟨bg_of 1269 rfl rfl, bg_of 110 rfl rfl, (by decide +kernel), by decide⟩
set_option maxRecDepth 100000 in
theorem cv_X11_takeItems : Cv yX11_takeItems := ⟨bg_of 1268 rfl rfl, bg_of 92 rfl rfl⟩
set_option maxRecDepth 100000 in
theorem cy_X11_placing : Cy yX11_placing cX11_placing 7 (some .int) 2 := ⟨bg_of 1285 rfl rfl, bg_of 110 rfl rfl, (by decide +kernel), by decide⟩
set_option maxRecDepth 100000 in
theorem cv_X11_placing : Cv yX11_placing := ⟨bg_of 1284 rfl rfl, bg_of 96 rfl rfl⟩
set_option maxRecDepth 100000 in
theorem cy_X11_reckon : Cy yX11_reckon cX11_reckon 6 (some .int) 0 := ⟨bg_of 1281 rfl rfl, bg_of 110 rfl rfl, (by decide +kernel), by decide⟩
set_option maxRecDepth 100000 in
theorem cv_X11_reckon : Cv yX11_reckon := ⟨bg_of 1280 rfl rfl, bg_of 95 rfl rfl⟩
set_option maxRecDepth 100000 in
theorem cy_X11_order : Cy yX11_order cX11_order 4 (some .int) 1 := ⟨bg_of 1265 rfl rfl, bg_of 110 rfl rfl, (by decide +kernel), by decide⟩
set_option maxRecDepth 100000 in
theorem cv_X11_order : Cv yX11_order := ⟨bg_of 1263 rfl rfl, bg_of 1264 rfl rfl⟩
set_option maxRecDepth 100000 in
theorem cy_X11_ordered : Cy yX11_ordered cX11_ordered 2 (some .int) 1 := ⟨bg_of 1289 rfl rfl, bg_of 110 rfl rfl, (by decide +kernel), by decide⟩
set_option maxRecDepth 100000 in
theorem cv_X11_ordered : Cv yX11_ordered := ⟨bg_of 1287 rfl rfl, bg_of 1288 rfl rfl⟩
set_option maxRecDepth 100000 in
theorem cy_X11_stands : Cy yX11_stands cX11_stands 4 (some .int) 1 := ⟨bg_of 1293 rfl rfl, bg_of 110 rfl rfl, (by decide +kernel), by decide⟩
set_option maxRecDepth 100000 in
theorem cv_X11_stands : Cv yX11_stands := ⟨bg_of 1291 rfl rfl, bg_of 1292 rfl rfl⟩
set_option maxRecDepth 100000 in
theorem cy_X11_setAll : Cy yX11_setAll cX11_setAll 3 (some .int) 0 := ⟨bg_of 1301 rfl rfl, bg_of 110 rfl rfl, (by decide +kernel), by decide⟩
set_option maxRecDepth 100000 in
theorem cv_X11_setAll : Cv yX11_setAll := ⟨bg_of 1300 rfl rfl, bg_of 97 rfl rfl⟩
set_option maxRecDepth 100000 in
theorem cy_X11_arrange : Cy yX11_arrange cX11_arrange 7 (some .int) 1 := ⟨bg_of 1297 rfl rfl, bg_of 110 rfl rfl, (by decide +kernel), by decide⟩
set_option maxRecDepth 100000 in
theorem cv_X11_arrange : Cv yX11_arrange := ⟨bg_of 1295 rfl rfl, bg_of 1296 rfl rfl⟩
set_option maxRecDepth 100000 in
theorem cy_X11_move : Cy yX11_move cX11_move 6 (some .int) 2 := ⟨bg_of 1305 rfl rfl, bg_of 110 rfl rfl, (by decide +kernel), by decide⟩
set_option maxRecDepth 100000 in
theorem cv_X11_move : Cv yX11_move := ⟨bg_of 1303 rfl rfl, bg_of 1304 rfl rfl⟩
set_option maxRecDepth 100000 in
theorem cy_X11_count : Cy yX11_count cX11_count 3 (some .int) 1 := ⟨bg_of 1309 rfl rfl, bg_of 110 rfl rfl, (by decide +kernel), by decide⟩
set_option maxRecDepth 100000 in
theorem cv_X11_count : Cv yX11_count := ⟨bg_of 1307 rfl rfl, bg_of 1308 rfl rfl⟩
set_option maxRecDepth 100000 in
theorem cy_J6_bitCount_0f7a4 : Cy yJ6_bitCount_0f7a4 cJ6_bitCount_0f7a4 1 (some .int) 1 := ⟨bg_of 856 rfl rfl, bg_of 115 rfl rfl, (by decide +kernel), by decide⟩
set_option maxRecDepth 100000 in
theorem cs_J6_bitCount_0f7a4 : Cs yJ6_bitCount_0f7a4 := bg_of 855 rfl rfl
set_option maxRecDepth 100000 in
theorem cy_J13_bitCount_95d88 : Cy yJ13_bitCount_95d88 cJ13_bitCount_95d88 2 (some .int) 1 := ⟨bg_of 650 rfl rfl, bg_of 114 rfl rfl, (by decide +kernel), by decide⟩
set_option maxRecDepth 100000 in
theorem cs_J13_bitCount_95d88 : Cs yJ13_bitCount_95d88 := bg_of 649 rfl rfl
set_option maxRecDepth 100000 in
theorem cy_J9_abs_0f7a4 : Cy yJ9_abs_0f7a4 cJ9_abs_0f7a4 1 (some .int) 1 := ⟨bg_of 671 rfl rfl, bg_of 112 rfl rfl, (by decide +kernel), by decide⟩
set_option maxRecDepth 100000 in
theorem cs_J9_abs_0f7a4 : Cs yJ9_abs_0f7a4 := bg_of 670 rfl rfl
set_option maxRecDepth 100000 in
theorem cy_J9_min_7cf53 : Cy yJ9_min_7cf53 cJ9_min_7cf53 2 (some .int) 2 := ⟨bg_of 589 rfl rfl, bg_of 112 rfl rfl, (by decide +kernel), by decide⟩
set_option maxRecDepth 100000 in
theorem cs_J9_min_7cf53 : Cs yJ9_min_7cf53 := bg_of 588 rfl rfl
set_option maxRecDepth 100000 in
theorem cy_J7_fill_d0a16 : Cy yJ7_fill_d0a16 cJ7_fill_d0a16 5 none 2 := ⟨bg_of 616 rfl rfl, bg_of 113 rfl rfl, (by decide +kernel), by decide⟩
set_option maxRecDepth 100000 in
theorem cs_J7_fill_d0a16 : Cs yJ7_fill_d0a16 := bg_of 615 rfl rfl
set_option maxRecDepth 100000 in
theorem cy_J7_fill_53178 : Cy yJ7_fill_53178 cJ7_fill_53178 4 none 2 := ⟨bg_of 619 rfl rfl, bg_of 113 rfl rfl, (by decide +kernel), by decide⟩
set_option maxRecDepth 100000 in
theorem cs_J7_fill_53178 : Cs yJ7_fill_53178 := bg_of 618 rfl rfl
