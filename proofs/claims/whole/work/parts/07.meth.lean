def M_J13_bitCount_95d88 : zMt := (yJ13_bitCount_95d88, cJ13_bitCount_95d88, 2, (some .int), 1, 0, 0)
theorem mS_J13_bitCount_95d88 : zm_S M_J13_bitCount_95d88 := ⟨⟨zt_t 662 (by decide +kernel) rfl, zt_t 16 (by decide +kernel) rfl, by decide +kernel⟩, zt_t 661 (by decide +kernel) rfl⟩
def M_J9_abs_0f7a4 : zMt := (yJ9_abs_0f7a4, cJ9_abs_0f7a4, 1, (some .int), 1, 0, 0)
theorem mS_J9_abs_0f7a4 : zm_S M_J9_abs_0f7a4 := ⟨⟨zt_t 843 (by decide +kernel) rfl, zt_t 13 (by decide +kernel) rfl, by decide +kernel⟩, zt_t 842 (by decide +kernel) rfl⟩
def M_J9_max_7cf53 : zMt := (yJ9_max_7cf53, cJ9_max_7cf53, 2, (some .int), 2, 0, 0)
theorem mS_J9_max_7cf53 : zm_S M_J9_max_7cf53 := ⟨⟨zt_t 365 (by decide +kernel) rfl, zt_t 13 (by decide +kernel) rfl, by decide +kernel⟩, zt_t 364 (by decide +kernel) rfl⟩
def M_J9_min_7cf53 : zMt := (yJ9_min_7cf53, cJ9_min_7cf53, 2, (some .int), 2, 0, 0)
theorem mS_J9_min_7cf53 : zm_S M_J9_min_7cf53 := ⟨⟨zt_t 362 (by decide +kernel) rfl, zt_t 13 (by decide +kernel) rfl, by decide +kernel⟩, zt_t 361 (by decide +kernel) rfl⟩
def M_J7_fill_d0a16 : zMt := (yJ7_fill_d0a16, cJ7_fill_d0a16, 5, none, 2, 0, 0)
theorem mS_J7_fill_d0a16 : zm_S M_J7_fill_d0a16 := ⟨⟨zt_t 641 (by decide +kernel) rfl, zt_t 15 (by decide +kernel) rfl, by decide +kernel⟩, zt_t 640 (by decide +kernel) rfl⟩
def M_J7_fill_53178 : zMt := (yJ7_fill_53178, cJ7_fill_53178, 4, none, 2, 0, 0)
theorem mS_J7_fill_53178 : zm_S M_J7_fill_53178 := ⟨⟨zt_t 521 (by decide +kernel) rfl, zt_t 15 (by decide +kernel) rfl, by decide +kernel⟩, zt_t 520 (by decide +kernel) rfl⟩
def M_X0_remember : zMt := (yX0_remember, cX0_remember, 3, none, 2, 2, 81)
theorem mV_X0_remember : zm_V M_X0_remember := ⟨⟨zt_t 565 (by decide +kernel) rfl, zt_t 3 (by decide +kernel) rfl, by decide +kernel⟩, zt_t 563 (by decide +kernel) rfl, zt_t 564 (by decide +kernel) rfl⟩
def M_X0_takeLatest : zMt := (yX0_takeLatest, cX0_takeLatest, 1, (some .int), 0, 1, 21)
theorem mV_X0_takeLatest : zm_V M_X0_takeLatest := ⟨⟨zt_t 956 (by decide +kernel) rfl, zt_t 3 (by decide +kernel) rfl, by decide +kernel⟩, zt_t 954 (by decide +kernel) rfl, zt_t 955 (by decide +kernel) rfl⟩
def M_X1_isMade : zMt := (yX1_isMade, cX1_isMade, 1, (some .boolean), 0, 0, 0)
theorem mV_X1_isMade : zm_V M_X1_isMade := ⟨⟨zt_t 673 (by decide +kernel) rfl, zt_t 7 (by decide +kernel) rfl, by decide +kernel⟩, zt_t 671 (by decide +kernel) rfl, zt_t 672 (by decide +kernel) rfl⟩
def M_X1_forget : zMt := (yX1_forget, cX1_forget, 1, none, 0, 0, 0)
theorem mV_X1_forget : zm_V M_X1_forget := ⟨⟨zt_t 467 (by decide +kernel) rfl, zt_t 7 (by decide +kernel) rfl, by decide +kernel⟩, zt_t 465 (by decide +kernel) rfl, zt_t 466 (by decide +kernel) rfl⟩
def M_X1_spread : zMt := (yX1_spread, cX1_spread, 6, none, 5, 3, 81)
theorem mV_X1_spread : zm_V M_X1_spread := ⟨⟨zt_t 620 (by decide +kernel) rfl, zt_t 7 (by decide +kernel) rfl, by decide +kernel⟩, zt_t 618 (by decide +kernel) rfl, zt_t 619 (by decide +kernel) rfl⟩
def M_X1_blurAlong : zMt := (yX1_blurAlong, cX1_blurAlong, 2, none, 1, 3, 69)
theorem mV_X1_blurAlong : zm_V M_X1_blurAlong := ⟨⟨zt_t 720 (by decide +kernel) rfl, zt_t 7 (by decide +kernel) rfl, by decide +kernel⟩, zt_t 718 (by decide +kernel) rfl, zt_t 719 (by decide +kernel) rfl⟩
def M_X1_blursAlong : zMt := (yX1_blursAlong, cX1_blursAlong, 2, (some .int), 1, 1, 22)
theorem mV_X1_blursAlong : zm_V M_X1_blursAlong := ⟨⟨zt_t 677 (by decide +kernel) rfl, zt_t 7 (by decide +kernel) rfl, by decide +kernel⟩, zt_t 675 (by decide +kernel) rfl, zt_t 676 (by decide +kernel) rfl⟩
def M_X1_hasDot : zMt := (yX1_hasDot, cX1_hasDot, 3, (some .boolean), 2, 1, 22)
theorem mV_X1_hasDot : zm_V M_X1_hasDot := ⟨⟨zt_t 736 (by decide +kernel) rfl, zt_t 7 (by decide +kernel) rfl, by decide +kernel⟩, zt_t 734 (by decide +kernel) rfl, zt_t 735 (by decide +kernel) rfl⟩
def M_X1_nodeHolds : zMt := (yX1_nodeHolds, cX1_nodeHolds, 13, (some .long), 4, 2, 46)
theorem mV_X1_nodeHolds : zm_V M_X1_nodeHolds := ⟨⟨zt_t 687 (by decide +kernel) rfl, zt_t 7 (by decide +kernel) rfl, by decide +kernel⟩, zt_t 685 (by decide +kernel) rfl, zt_t 686 (by decide +kernel) rfl⟩
def M_X1_allHold : zMt := (yX1_allHold, cX1_allHold, 6, (some .long), 1, 2, 42)
theorem mV_X1_allHold : zm_V M_X1_allHold := ⟨⟨zt_t 710 (by decide +kernel) rfl, zt_t 7 (by decide +kernel) rfl, by decide +kernel⟩, zt_t 708 (by decide +kernel) rfl, zt_t 709 (by decide +kernel) rfl⟩
def M_X1_shadeRead : zMt := (yX1_shadeRead, cX1_shadeRead, 3, (some .int), 2, 3, 77)
theorem mV_X1_shadeRead : zm_V M_X1_shadeRead := ⟨⟨zt_t 753 (by decide +kernel) rfl, zt_t 7 (by decide +kernel) rfl, by decide +kernel⟩, zt_t 751 (by decide +kernel) rfl, zt_t 752 (by decide +kernel) rfl⟩
def M_X1_gather : zMt := (yX1_gather, cX1_gather, 11, none, 3, 2, 47)
theorem mV_X1_gather : zm_V M_X1_gather := ⟨⟨zt_t 742 (by decide +kernel) rfl, zt_t 7 (by decide +kernel) rfl, by decide +kernel⟩, zt_t 740 (by decide +kernel) rfl, zt_t 741 (by decide +kernel) rfl⟩
def M_X1_bindPlaces : zMt := (yX1_bindPlaces, cX1_bindPlaces, 3, none, 0, 2, 47)
theorem mV_X1_bindPlaces : zm_V M_X1_bindPlaces := ⟨⟨zt_t 626 (by decide +kernel) rfl, zt_t 7 (by decide +kernel) rfl, by decide +kernel⟩, zt_t 625 (by decide +kernel) rfl, zt_p (q := (yX1_bindPlaces, 9)) 16 (by decide +kernel) rfl⟩
def M_X1_bond : zMt := (yX1_bond, cX1_bond, 7, (some .int), 4, 1, 21)
theorem mS_X1_bond : zm_S M_X1_bond := ⟨⟨zt_t 629 (by decide +kernel) rfl, zt_t 7 (by decide +kernel) rfl, by decide +kernel⟩, zt_t 628 (by decide +kernel) rfl⟩
def M_X1_gift : zMt := (yX1_gift, cX1_gift, 6, (some .int), 4, 1, 21)
theorem mS_X1_gift : zm_S M_X1_gift := ⟨⟨zt_t 690 (by decide +kernel) rfl, zt_t 7 (by decide +kernel) rfl, by decide +kernel⟩, zt_t 689 (by decide +kernel) rfl⟩
def M_X1_echo : zMt := (yX1_echo, cX1_echo, 2, (some .int), 2, 0, 0)
theorem mS_X1_echo : zm_S M_X1_echo := ⟨⟨zt_t 632 (by decide +kernel) rfl, zt_t 7 (by decide +kernel) rfl, by decide +kernel⟩, zt_t 631 (by decide +kernel) rfl⟩
def M_X2_become : zMt := (yX2_become, cX2_become, 2, none, 1, 1, 60)
theorem mV_X2_become : zm_V M_X2_become := ⟨⟨zt_t 451 (by decide +kernel) rfl, zt_t 6 (by decide +kernel) rfl, by decide +kernel⟩, zt_t 449 (by decide +kernel) rfl, zt_t 450 (by decide +kernel) rfl⟩
def M_X2_add : zMt := (yX2_add, cX2_add, 3, none, 1, 1, 21)
theorem mV_X2_add : zm_V M_X2_add := ⟨⟨zt_t 413 (by decide +kernel) rfl, zt_t 6 (by decide +kernel) rfl, by decide +kernel⟩, zt_t 411 (by decide +kernel) rfl, zt_t 412 (by decide +kernel) rfl⟩
def M_X2_know : zMt := (yX2_know, cX2_know, 3, (some .boolean), 1, 2, 46)
theorem mV_X2_know : zm_V M_X2_know := ⟨⟨zt_t 400 (by decide +kernel) rfl, zt_t 6 (by decide +kernel) rfl, by decide +kernel⟩, zt_t 398 (by decide +kernel) rfl, zt_t 399 (by decide +kernel) rfl⟩
def M_X2_hasLetter : zMt := (yX2_hasLetter, cX2_hasLetter, 3, (some .boolean), 2, 0, 0)
theorem mV_X2_hasLetter : zm_V M_X2_hasLetter := ⟨⟨zt_t 408 (by decide +kernel) rfl, zt_t 6 (by decide +kernel) rfl, by decide +kernel⟩, zt_t 406 (by decide +kernel) rfl, zt_t 407 (by decide +kernel) rfl⟩
def M_X2_letterOf : zMt := (yX2_letterOf, cX2_letterOf, 3, (some .int), 2, 1, 22)
theorem mV_X2_letterOf : zm_V M_X2_letterOf := ⟨⟨zt_t 1057 (by decide +kernel) rfl, zt_t 6 (by decide +kernel) rfl, by decide +kernel⟩, zt_t 1055 (by decide +kernel) rfl, zt_t 1056 (by decide +kernel) rfl⟩
def M_X2_isName : zMt := (yX2_isName, cX2_isName, 5, (some .boolean), 2, 1, 22)
theorem mV_X2_isName : zm_V M_X2_isName := ⟨⟨zt_t 404 (by decide +kernel) rfl, zt_t 6 (by decide +kernel) rfl, by decide +kernel⟩, zt_t 403 (by decide +kernel) rfl, zt_p (q := (yX2_isName, 3)) 4 (by decide +kernel) rfl⟩
def M_X3_spread : zMt := (yX3_spread, cX3_spread, 6, none, 3, 3, 77)
theorem mV_X3_spread : zm_V M_X3_spread := ⟨⟨zt_t 638 (by decide +kernel) rfl, zt_t 8 (by decide +kernel) rfl, by decide +kernel⟩, zt_t 636 (by decide +kernel) rfl, zt_t 637 (by decide +kernel) rfl⟩
def M_X3_spreadDot : zMt := (yX3_spreadDot, cX3_spreadDot, 10, none, 4, 2, 48)
theorem mV_X3_spreadDot : zm_V M_X3_spreadDot := ⟨⟨zt_t 650 (by decide +kernel) rfl, zt_t 8 (by decide +kernel) rfl, by decide +kernel⟩, zt_t 649 (by decide +kernel) rfl, zt_p (q := (yX3_spreadDot, 1)) 17 (by decide +kernel) rfl⟩
def M_X3_shadeNodes : zMt := (yX3_shadeNodes, cX3_shadeNodes, 3, (some .long), 2, 0, 0)
theorem mS_X3_shadeNodes : zm_S M_X3_shadeNodes := ⟨⟨zt_t 645 (by decide +kernel) rfl, zt_t 8 (by decide +kernel) rfl, by decide +kernel⟩, zt_t 644 (by decide +kernel) rfl⟩
def M_X3_add : zMt := (yX3_add, cX3_add, 7, none, 3, 1, 22)
theorem mV_X3_add : zm_V M_X3_add := ⟨⟨zt_t 654 (by decide +kernel) rfl, zt_t 8 (by decide +kernel) rfl, by decide +kernel⟩, zt_t 653 (by decide +kernel) rfl, zt_p (q := (yX3_add, 1)) 18 (by decide +kernel) rfl⟩
def M_X3_widen : zMt := (yX3_widen, cX3_widen, 3, none, 1, 1, 31)
theorem mV_X3_widen : zm_V M_X3_widen := ⟨⟨zt_t 724 (by decide +kernel) rfl, zt_t 8 (by decide +kernel) rfl, by decide +kernel⟩, zt_t 722 (by decide +kernel) rfl, zt_t 723 (by decide +kernel) rfl⟩
def M_X3_widenLine : zMt := (yX3_widenLine, cX3_widenLine, 12, none, 3, 0, 0)
theorem mV_X3_widenLine : zm_V M_X3_widenLine := ⟨⟨zt_t 728 (by decide +kernel) rfl, zt_t 8 (by decide +kernel) rfl, by decide +kernel⟩, zt_t 727 (by decide +kernel) rfl, zt_p (q := (yX3_widenLine, 1)) 19 (by decide +kernel) rfl⟩
def M_X3_count : zMt := (yX3_count, cX3_count, 3, (some .int), 0, 1, 21)
theorem mV_X3_count : zm_V M_X3_count := ⟨⟨zt_t 659 (by decide +kernel) rfl, zt_t 8 (by decide +kernel) rfl, by decide +kernel⟩, zt_t 657 (by decide +kernel) rfl, zt_t 658 (by decide +kernel) rfl⟩
def M_X3_placeOf : zMt := (yX3_placeOf, cX3_placeOf, 6, (some .int), 2, 1, 24)
theorem mV_X3_placeOf : zm_V M_X3_placeOf := ⟨⟨zt_t 699 (by decide +kernel) rfl, zt_t 8 (by decide +kernel) rfl, by decide +kernel⟩, zt_t 697 (by decide +kernel) rfl, zt_t 698 (by decide +kernel) rfl⟩
def M_X3_bitOfRank : zMt := (yX3_bitOfRank, cX3_bitOfRank, 5, (some .int), 2, 0, 0)
theorem mS_X3_bitOfRank : zm_S M_X3_bitOfRank := ⟨⟨zt_t 702 (by decide +kernel) rfl, zt_t 8 (by decide +kernel) rfl, by decide +kernel⟩, zt_t 701 (by decide +kernel) rfl⟩
def M_X4_findIn : zMt := (yX4_findIn, cX4_findIn, 4, none, 1, 2, 49)
theorem mV_X4_findIn : zm_V M_X4_findIn := ⟨⟨zt_t 922 (by decide +kernel) rfl, zt_t 11 (by decide +kernel) rfl, by decide +kernel⟩, zt_t 920 (by decide +kernel) rfl, zt_t 921 (by decide +kernel) rfl⟩
def M_X4_add : zMt := (yX4_add, cX4_add, 3, none, 2, 1, 21)
theorem mV_X4_add : zm_V M_X4_add := ⟨⟨zt_t 928 (by decide +kernel) rfl, zt_t 11 (by decide +kernel) rfl, by decide +kernel⟩, zt_t 927 (by decide +kernel) rfl, zt_p (q := (yX4_add, 5)) 25 (by decide +kernel) rfl⟩
def M_X4_sort : zMt := (yX4_sort, cX4_sort, 6, none, 0, 1, 24)
theorem mV_X4_sort : zm_V M_X4_sort := ⟨⟨zt_t 934 (by decide +kernel) rfl, zt_t 11 (by decide +kernel) rfl, by decide +kernel⟩, zt_t 933 (by decide +kernel) rfl, zt_p (q := (yX4_sort, 5)) 26 (by decide +kernel) rfl⟩
def M_X4_sink : zMt := (yX4_sink, cX4_sink, 5, none, 2, 0, 0)
theorem mV_X4_sink : zm_V M_X4_sink := ⟨⟨zt_t 940 (by decide +kernel) rfl, zt_t 11 (by decide +kernel) rfl, by decide +kernel⟩, zt_t 939 (by decide +kernel) rfl, zt_p (q := (yX4_sink, 5)) 27 (by decide +kernel) rfl⟩
def M_X4_countRuns : zMt := (yX4_countRuns, cX4_countRuns, 4, none, 0, 0, 0)
theorem mV_X4_countRuns : zm_V M_X4_countRuns := ⟨⟨zt_t 944 (by decide +kernel) rfl, zt_t 11 (by decide +kernel) rfl, by decide +kernel⟩, zt_t 943 (by decide +kernel) rfl, zt_p (q := (yX4_countRuns, 5)) 28 (by decide +kernel) rfl⟩
def M_X5_isTold : zMt := (yX5_isTold, cX5_isTold, 1, (some .boolean), 0, 0, 0)
theorem mV_X5_isTold : zm_V M_X5_isTold := ⟨⟨zt_t 490 (by decide +kernel) rfl, zt_t 2 (by decide +kernel) rfl, by decide +kernel⟩, zt_t 488 (by decide +kernel) rfl, zt_t 489 (by decide +kernel) rfl⟩
def M_X5_forget : zMt := (yX5_forget, cX5_forget, 1, none, 0, 0, 0)
theorem mV_X5_forget : zm_V M_X5_forget := ⟨⟨zt_t 463 (by decide +kernel) rfl, zt_t 2 (by decide +kernel) rfl, by decide +kernel⟩, zt_t 461 (by decide +kernel) rfl, zt_t 462 (by decide +kernel) rfl⟩
def M_X5_resize : zMt := (yX5_resize, cX5_resize, 3, none, 2, 1, 21)
theorem mV_X5_resize : zm_V M_X5_resize := ⟨⟨zt_t 426 (by decide +kernel) rfl, zt_t 2 (by decide +kernel) rfl, by decide +kernel⟩, zt_t 424 (by decide +kernel) rfl, zt_t 425 (by decide +kernel) rfl⟩
def M_X5_become : zMt := (yX5_become, cX5_become, 2, none, 1, 1, 60)
theorem mV_X5_become : zm_V M_X5_become := ⟨⟨zt_t 458 (by decide +kernel) rfl, zt_t 2 (by decide +kernel) rfl, by decide +kernel⟩, zt_t 456 (by decide +kernel) rfl, zt_t 457 (by decide +kernel) rfl⟩
def M_X5_count : zMt := (yX5_count, cX5_count, 1, (some .int), 0, 0, 0)
theorem mV_X5_count : zm_V M_X5_count := ⟨⟨zt_t 498 (by decide +kernel) rfl, zt_t 2 (by decide +kernel) rfl, by decide +kernel⟩, zt_t 496 (by decide +kernel) rfl, zt_t 497 (by decide +kernel) rfl⟩
def M_X5_contains : zMt := (yX5_contains, cX5_contains, 3, (some .boolean), 2, 0, 0)
theorem mV_X5_contains : zm_V M_X5_contains := ⟨⟨zt_t 443 (by decide +kernel) rfl, zt_t 2 (by decide +kernel) rfl, by decide +kernel⟩, zt_t 441 (by decide +kernel) rfl, zt_t 442 (by decide +kernel) rfl⟩
def M_X5_indexOf : zMt := (yX5_indexOf, cX5_indexOf, 3, (some .int), 2, 1, 22)
theorem mV_X5_indexOf : zm_V M_X5_indexOf := ⟨⟨zt_t 873 (by decide +kernel) rfl, zt_t 2 (by decide +kernel) rfl, by decide +kernel⟩, zt_t 871 (by decide +kernel) rfl, zt_t 872 (by decide +kernel) rfl⟩
def M_X5_shadeAt : zMt := (yX5_shadeAt, cX5_shadeAt, 3, (some .int), 2, 1, 22)
theorem mV_X5_shadeAt : zm_V M_X5_shadeAt := ⟨⟨zt_t 527 (by decide +kernel) rfl, zt_t 2 (by decide +kernel) rfl, by decide +kernel⟩, zt_t 525 (by decide +kernel) rfl, zt_t 526 (by decide +kernel) rfl⟩
def M_X5_putShade : zMt := (yX5_putShade, cX5_putShade, 4, none, 3, 1, 22)
theorem mV_X5_putShade : zm_V M_X5_putShade := ⟨⟨zt_t 439 (by decide +kernel) rfl, zt_t 2 (by decide +kernel) rfl, by decide +kernel⟩, zt_t 437 (by decide +kernel) rfl, zt_t 438 (by decide +kernel) rfl⟩
def M_X5_stepRight : zMt := (yX5_stepRight, cX5_stepRight, 3, (some .int), 2, 2, 44)
theorem mV_X5_stepRight : zm_V M_X5_stepRight := ⟨⟨zt_t 839 (by decide +kernel) rfl, zt_t 2 (by decide +kernel) rfl, by decide +kernel⟩, zt_t 837 (by decide +kernel) rfl, zt_t 838 (by decide +kernel) rfl⟩
def M_X5_stepDown : zMt := (yX5_stepDown, cX5_stepDown, 3, (some .int), 2, 2, 44)
theorem mV_X5_stepDown : zm_V M_X5_stepDown := ⟨⟨zt_t 847 (by decide +kernel) rfl, zt_t 2 (by decide +kernel) rfl, by decide +kernel⟩, zt_t 845 (by decide +kernel) rfl, zt_t 846 (by decide +kernel) rfl⟩
def M_X5_least : zMt := (yX5_least, cX5_least, 3, (some .int), 0, 1, 21)
theorem mV_X5_least : zm_V M_X5_least := ⟨⟨zt_t 494 (by decide +kernel) rfl, zt_t 2 (by decide +kernel) rfl, by decide +kernel⟩, zt_t 492 (by decide +kernel) rfl, zt_t 493 (by decide +kernel) rfl⟩
def M_X5_greatest : zMt := (yX5_greatest, cX5_greatest, 3, (some .int), 0, 1, 21)
theorem mV_X5_greatest : zm_V M_X5_greatest := ⟨⟨zt_t 502 (by decide +kernel) rfl, zt_t 2 (by decide +kernel) rfl, by decide +kernel⟩, zt_t 500 (by decide +kernel) rfl, zt_t 501 (by decide +kernel) rfl⟩
def M_X5_together : zMt := (yX5_together, cX5_together, 3, (some .int), 0, 1, 20)
theorem mV_X5_together : zm_V M_X5_together := ⟨⟨zt_t 506 (by decide +kernel) rfl, zt_t 2 (by decide +kernel) rfl, by decide +kernel⟩, zt_t 504 (by decide +kernel) rfl, zt_t 505 (by decide +kernel) rfl⟩
def M_X6_findIn : zMt := (yX6_findIn, cX6_findIn, 5, none, 2, 4, 94)
theorem mV_X6_findIn : zm_V M_X6_findIn := ⟨⟨zt_t 868 (by decide +kernel) rfl, zt_t 10 (by decide +kernel) rfl, by decide +kernel⟩, zt_t 866 (by decide +kernel) rfl, zt_t 867 (by decide +kernel) rfl⟩
def M_X6_flood : zMt := (yX6_flood, cX6_flood, 8, none, 4, 3, 67)
theorem mV_X6_flood : zm_V M_X6_flood := ⟨⟨zt_t 877 (by decide +kernel) rfl, zt_t 10 (by decide +kernel) rfl, by decide +kernel⟩, zt_t 876 (by decide +kernel) rfl, zt_p (q := (yX6_flood, 5)) 23 (by decide +kernel) rfl⟩
def M_X6_enter : zMt := (yX6_enter, cX6_enter, 4, none, 3, 2, 44)
theorem mV_X6_enter : zm_V M_X6_enter := ⟨⟨zt_t 881 (by decide +kernel) rfl, zt_t 10 (by decide +kernel) rfl, by decide +kernel⟩, zt_t 880 (by decide +kernel) rfl, zt_p (q := (yX6_enter, 5)) 24 (by decide +kernel) rfl⟩
def M_X6_tell : zMt := (yX6_tell, cX6_tell, 9, (some .int), 3, 1, 21)
theorem mV_X6_tell : zm_V M_X6_tell := ⟨⟨zt_t 893 (by decide +kernel) rfl, zt_t 10 (by decide +kernel) rfl, by decide +kernel⟩, zt_t 891 (by decide +kernel) rfl, zt_t 892 (by decide +kernel) rfl⟩
def M_X7_clear : zMt := (yX7_clear, cX7_clear, 1, none, 0, 1, 23)
theorem mV_X7_clear : zm_V M_X7_clear := ⟨⟨zt_t 518 (by decide +kernel) rfl, zt_t 9 (by decide +kernel) rfl, by decide +kernel⟩, zt_t 516 (by decide +kernel) rfl, zt_t 517 (by decide +kernel) rfl⟩
def M_X7_add : zMt := (yX7_add, cX7_add, 2, none, 1, 2, 42)
theorem mV_X7_add : zm_V M_X7_add := ⟨⟨zt_t 531 (by decide +kernel) rfl, zt_t 9 (by decide +kernel) rfl, by decide +kernel⟩, zt_t 529 (by decide +kernel) rfl, zt_t 530 (by decide +kernel) rfl⟩
def M_X7_unlike : zMt := (yX7_unlike, cX7_unlike, 3, (some .int), 0, 0, 0)
theorem mV_X7_unlike : zm_V M_X7_unlike := ⟨⟨zt_t 538 (by decide +kernel) rfl, zt_t 9 (by decide +kernel) rfl, by decide +kernel⟩, zt_t 536 (by decide +kernel) rfl, zt_t 537 (by decide +kernel) rfl⟩
def M_X7_mean : zMt := (yX7_mean, cX7_mean, 1, (some .int), 0, 1, 23)
theorem mV_X7_mean : zm_V M_X7_mean := ⟨⟨zt_t 793 (by decide +kernel) rfl, zt_t 9 (by decide +kernel) rfl, by decide +kernel⟩, zt_t 791 (by decide +kernel) rfl, zt_t 792 (by decide +kernel) rfl⟩
def M_X7_middle : zMt := (yX7_middle, cX7_middle, 1, (some .int), 0, 1, 23)
theorem mV_X7_middle : zm_V M_X7_middle := ⟨⟨zt_t 785 (by decide +kernel) rfl, zt_t 9 (by decide +kernel) rfl, by decide +kernel⟩, zt_t 783 (by decide +kernel) rfl, zt_t 784 (by decide +kernel) rfl⟩
def M_X7_ofRank : zMt := (yX7_ofRank, cX7_ofRank, 4, (some .int), 1, 0, 0)
theorem mV_X7_ofRank : zm_V M_X7_ofRank := ⟨⟨zt_t 789 (by decide +kernel) rfl, zt_t 9 (by decide +kernel) rfl, by decide +kernel⟩, zt_t 787 (by decide +kernel) rfl, zt_t 788 (by decide +kernel) rfl⟩
def M_X8_append : zMt := (yX8_append, cX8_append, 3, none, 1, 0, 0)
theorem mV_X8_append : zm_V M_X8_append := ⟨⟨zt_t 340 (by decide +kernel) rfl, zt_t 4 (by decide +kernel) rfl, by decide +kernel⟩, zt_t 338 (by decide +kernel) rfl, zt_t 339 (by decide +kernel) rfl⟩
def M_X8_beginText : zMt := (yX8_beginText, cX8_beginText, 2, none, 1, 1, 21)
theorem mV_X8_beginText : zm_V M_X8_beginText := ⟨⟨zt_t 359 (by decide +kernel) rfl, zt_t 4 (by decide +kernel) rfl, by decide +kernel⟩, zt_t 357 (by decide +kernel) rfl, zt_t 358 (by decide +kernel) rfl⟩
def M_X8_nextToken : zMt := (yX8_nextToken, cX8_nextToken, 1, none, 0, 2, 42)
theorem mV_X8_nextToken : zm_V M_X8_nextToken := ⟨⟨zt_t 369 (by decide +kernel) rfl, zt_t 4 (by decide +kernel) rfl, by decide +kernel⟩, zt_t 367 (by decide +kernel) rfl, zt_t 368 (by decide +kernel) rfl⟩
def M_X8_wordLetter : zMt := (yX8_wordLetter, cX8_wordLetter, 2, (some .int), 1, 0, 0)
theorem mV_X8_wordLetter : zm_V M_X8_wordLetter := ⟨⟨zt_t 392 (by decide +kernel) rfl, zt_t 4 (by decide +kernel) rfl, by decide +kernel⟩, zt_t 390 (by decide +kernel) rfl, zt_t 391 (by decide +kernel) rfl⟩
def M_X8_isPic : zMt := (yX8_isPic, cX8_isPic, 1, (some .boolean), 0, 1, 21)
theorem mV_X8_isPic : zm_V M_X8_isPic := ⟨⟨zt_t 388 (by decide +kernel) rfl, zt_t 4 (by decide +kernel) rfl, by decide +kernel⟩, zt_t 386 (by decide +kernel) rfl, zt_t 387 (by decide +kernel) rfl⟩
def M_X8_isLetter : zMt := (yX8_isLetter, cX8_isLetter, 1, (some .boolean), 1, 1, 22)
theorem mS_X8_isLetter : zm_S M_X8_isLetter := ⟨⟨zt_t 372 (by decide +kernel) rfl, zt_t 4 (by decide +kernel) rfl, by decide +kernel⟩, zt_t 371 (by decide +kernel) rfl⟩
def M_X8_markOf : zMt := (yX8_markOf, cX8_markOf, 1, (some .int), 1, 0, 0)
theorem mS_X8_markOf : zm_S M_X8_markOf := ⟨⟨zt_t 376 (by decide +kernel) rfl, zt_t 4 (by decide +kernel) rfl, by decide +kernel⟩, zt_t 375 (by decide +kernel) rfl⟩
def M_X9_faultOf : zMt := (yX9_faultOf, cX9_faultOf, 5, (some .int), 2, 5, 110)
theorem mV_X9_faultOf : zm_V M_X9_faultOf := ⟨⟨zt_t 355 (by decide +kernel) rfl, zt_t 5 (by decide +kernel) rfl, by decide +kernel⟩, zt_t 353 (by decide +kernel) rfl, zt_t 354 (by decide +kernel) rfl⟩
def M_X9_take : zMt := (yX9_take, cX9_take, 2, (some .int), 1, 4, 89)
theorem mV_X9_take : zm_V M_X9_take := ⟨⟨zt_t 380 (by decide +kernel) rfl, zt_t 5 (by decide +kernel) rfl, by decide +kernel⟩, zt_t 379 (by decide +kernel) rfl, zt_p (q := (yX9_take, 3)) 1 (by decide +kernel) rfl⟩
def M_X9_takePic : zMt := (yX9_takePic, cX9_takePic, 2, (some .int), 1, 2, 41)
theorem mV_X9_takePic : zm_V M_X9_takePic := ⟨⟨zt_t 384 (by decide +kernel) rfl, zt_t 5 (by decide +kernel) rfl, by decide +kernel⟩, zt_t 383 (by decide +kernel) rfl, zt_p (q := (yX9_takePic, 3)) 2 (by decide +kernel) rfl⟩
def M_X9_takeName : zMt := (yX9_takeName, cX9_takeName, 2, (some .int), 1, 3, 68)
theorem mV_X9_takeName : zm_V M_X9_takeName := ⟨⟨zt_t 396 (by decide +kernel) rfl, zt_t 5 (by decide +kernel) rfl, by decide +kernel⟩, zt_t 395 (by decide +kernel) rfl, zt_p (q := (yX9_takeName, 3)) 3 (by decide +kernel) rfl⟩
def M_X9_takeRow : zMt := (yX9_takeRow, cX9_takeRow, 3, (some .int), 1, 3, 67)
theorem mV_X9_takeRow : zm_V M_X9_takeRow := ⟨⟨zt_t 422 (by decide +kernel) rfl, zt_t 5 (by decide +kernel) rfl, by decide +kernel⟩, zt_t 421 (by decide +kernel) rfl, zt_p (q := (yX9_takeRow, 3)) 6 (by decide +kernel) rfl⟩
def M_X9_addRow : zMt := (yX9_addRow, cX9_addRow, 3, (some .int), 2, 2, 45)
theorem mS_X9_addRow : zm_S M_X9_addRow := ⟨⟨zt_t 431 (by decide +kernel) rfl, zt_t 5 (by decide +kernel) rfl, by decide +kernel⟩, zt_t 430 (by decide +kernel) rfl⟩
def M_X9_isRow : zMt := (yX9_isRow, cX9_isRow, 2, (some .boolean), 1, 1, 21)
theorem mS_X9_isRow : zm_S M_X9_isRow := ⟨⟨zt_t 434 (by decide +kernel) rfl, zt_t 5 (by decide +kernel) rfl, by decide +kernel⟩, zt_t 433 (by decide +kernel) rfl⟩
def M_X9_takeMark : zMt := (yX9_takeMark, cX9_takeMark, 2, (some .int), 1, 0, 0)
theorem mV_X9_takeMark : zm_V M_X9_takeMark := ⟨⟨zt_t 418 (by decide +kernel) rfl, zt_t 5 (by decide +kernel) rfl, by decide +kernel⟩, zt_t 417 (by decide +kernel) rfl, zt_p (q := (yX9_takeMark, 3)) 5 (by decide +kernel) rfl⟩
def M_X10_feed : zMt := (yX10_feed, cX10_feed, 6, (some .int), 5, 1, 22)
theorem mV_X10_feed : zm_V M_X10_feed := ⟨⟨zt_t 336 (by decide +kernel) rfl, zt_t 1 (by decide +kernel) rfl, by decide +kernel⟩, zt_t 334 (by decide +kernel) rfl, zt_t 335 (by decide +kernel) rfl⟩
def M_X10_text : zMt := (yX10_text, cX10_text, 2, (some .int), 1, 6, 134)
theorem mV_X10_text : zm_V M_X10_text := ⟨⟨zt_t 344 (by decide +kernel) rfl, zt_t 1 (by decide +kernel) rfl, by decide +kernel⟩, zt_t 342 (by decide +kernel) rfl, zt_t 343 (by decide +kernel) rfl⟩
def M_X10_fault : zMt := (yX10_fault, cX10_fault, 1, (some .int), 0, 0, 0)
theorem mV_X10_fault : zm_V M_X10_fault := ⟨⟨zt_t 471 (by decide +kernel) rfl, zt_t 1 (by decide +kernel) rfl, by decide +kernel⟩, zt_t 469 (by decide +kernel) rfl, zt_t 470 (by decide +kernel) rfl⟩
def M_X10_where : zMt := (yX10_where, cX10_where, 1, (some .int), 0, 0, 0)
theorem mV_X10_where : zm_V M_X10_where := ⟨⟨zt_t 475 (by decide +kernel) rfl, zt_t 1 (by decide +kernel) rfl, by decide +kernel⟩, zt_t 473 (by decide +kernel) rfl, zt_t 474 (by decide +kernel) rfl⟩
def M_X10_takeOver : zMt := (yX10_takeOver, cX10_takeOver, 2, none, 0, 2, 81)
theorem mV_X10_takeOver : zm_V M_X10_takeOver := ⟨⟨zt_t 447 (by decide +kernel) rfl, zt_t 1 (by decide +kernel) rfl, by decide +kernel⟩, zt_t 446 (by decide +kernel) rfl, zt_p (q := (yX10_takeOver, 18)) 7 (by decide +kernel) rfl⟩
def M_X10_about : zMt := (yX10_about, cX10_about, 4, (some .int), 2, 5, 113)
theorem mV_X10_about : zm_V M_X10_about := ⟨⟨zt_t 479 (by decide +kernel) rfl, zt_t 1 (by decide +kernel) rfl, by decide +kernel⟩, zt_t 477 (by decide +kernel) rfl, zt_t 478 (by decide +kernel) rfl⟩
def M_X10_dot : zMt := (yX10_dot, cX10_dot, 4, (some .int), 3, 4, 86)
theorem mV_X10_dot : zm_V M_X10_dot := ⟨⟨zt_t 542 (by decide +kernel) rfl, zt_t 1 (by decide +kernel) rfl, by decide +kernel⟩, zt_t 540 (by decide +kernel) rfl, zt_t 541 (by decide +kernel) rfl⟩
def M_X10_often : zMt := (yX10_often, cX10_often, 3, (some .int), 2, 5, 113)
theorem mV_X10_often : zm_V M_X10_often := ⟨⟨zt_t 551 (by decide +kernel) rfl, zt_t 1 (by decide +kernel) rfl, by decide +kernel⟩, zt_t 549 (by decide +kernel) rfl, zt_t 550 (by decide +kernel) rfl⟩
def M_X10_set : zMt := (yX10_set, cX10_set, 6, (some .int), 4, 4, 124)
theorem mV_X10_set : zm_V M_X10_set := ⟨⟨zt_t 556 (by decide +kernel) rfl, zt_t 1 (by decide +kernel) rfl, by decide +kernel⟩, zt_t 554 (by decide +kernel) rfl, zt_t 555 (by decide +kernel) rfl⟩
def M_X10_fill : zMt := (yX10_fill, cX10_fill, 6, (some .boolean), 4, 4, 124)
theorem mV_X10_fill : zm_V M_X10_fill := ⟨⟨zt_t 571 (by decide +kernel) rfl, zt_t 1 (by decide +kernel) rfl, by decide +kernel⟩, zt_t 569 (by decide +kernel) rfl, zt_t 570 (by decide +kernel) rfl⟩
def M_X10_turn : zMt := (yX10_turn, cX10_turn, 4, (some .boolean), 3, 4, 124)
theorem mV_X10_turn : zm_V M_X10_turn := ⟨⟨zt_t 577 (by decide +kernel) rfl, zt_t 1 (by decide +kernel) rfl, by decide +kernel⟩, zt_t 575 (by decide +kernel) rfl, zt_t 576 (by decide +kernel) rfl⟩
def M_X10_part : zMt := (yX10_part, cX10_part, 10, (some .boolean), 6, 4, 124)
theorem mV_X10_part : zm_V M_X10_part := ⟨⟨zt_t 588 (by decide +kernel) rfl, zt_t 1 (by decide +kernel) rfl, by decide +kernel⟩, zt_t 586 (by decide +kernel) rfl, zt_t 587 (by decide +kernel) rfl⟩
def M_X10_noise : zMt := (yX10_noise, cX10_noise, 7, (some .int), 3, 5, 147)
theorem mV_X10_noise : zm_V M_X10_noise := ⟨⟨zt_t 592 (by decide +kernel) rfl, zt_t 1 (by decide +kernel) rfl, by decide +kernel⟩, zt_t 590 (by decide +kernel) rfl, zt_t 591 (by decide +kernel) rfl⟩
def M_X10_turnToWork : zMt := (yX10_turnToWork, cX10_turnToWork, 6, none, 2, 3, 67)
theorem mV_X10_turnToWork : zm_V M_X10_turnToWork := ⟨⟨zt_t 581 (by decide +kernel) rfl, zt_t 1 (by decide +kernel) rfl, by decide +kernel⟩, zt_t 580 (by decide +kernel) rfl, zt_p (q := (yX10_turnToWork, 18)) 13 (by decide +kernel) rfl⟩
def M_X10_turnedShade : zMt := (yX10_turnedShade, cX10_turnedShade, 4, (some .int), 4, 2, 44)
theorem mS_X10_turnedShade : zm_S M_X10_turnedShade := ⟨⟨zt_t 584 (by decide +kernel) rfl, zt_t 1 (by decide +kernel) rfl, by decide +kernel⟩, zt_t 583 (by decide +kernel) rfl⟩
def M_X10_grid : zMt := (yX10_grid, cX10_grid, 5, (some .int), 4, 4, 106)
theorem mV_X10_grid : zm_V M_X10_grid := ⟨⟨zt_t 609 (by decide +kernel) rfl, zt_t 1 (by decide +kernel) rfl, by decide +kernel⟩, zt_t 607 (by decide +kernel) rfl, zt_t 608 (by decide +kernel) rfl⟩
def M_X10_gridded : zMt := (yX10_gridded, cX10_gridded, 2, (some .int), 1, 2, 43)
theorem mV_X10_gridded : zm_V M_X10_gridded := ⟨⟨zt_t 669 (by decide +kernel) rfl, zt_t 1 (by decide +kernel) rfl, by decide +kernel⟩, zt_t 667 (by decide +kernel) rfl, zt_t 668 (by decide +kernel) rfl⟩
def M_X10_node : zMt := (yX10_node, cX10_node, 5, (some .long), 4, 3, 78)
theorem mV_X10_node : zm_V M_X10_node := ⟨⟨zt_t 682 (by decide +kernel) rfl, zt_t 1 (by decide +kernel) rfl, by decide +kernel⟩, zt_t 680 (by decide +kernel) rfl, zt_t 681 (by decide +kernel) rfl⟩
def M_X10_nth : zMt := (yX10_nth, cX10_nth, 3, (some .int), 2, 2, 49)
theorem mV_X10_nth : zm_V M_X10_nth := ⟨⟨zt_t 695 (by decide +kernel) rfl, zt_t 1 (by decide +kernel) rfl, by decide +kernel⟩, zt_t 693 (by decide +kernel) rfl, zt_t 694 (by decide +kernel) rfl⟩
def M_X10_total : zMt := (yX10_total, cX10_total, 2, (some .long), 1, 3, 67)
theorem mV_X10_total : zm_V M_X10_total := ⟨⟨zt_t 706 (by decide +kernel) rfl, zt_t 1 (by decide +kernel) rfl, by decide +kernel⟩, zt_t 704 (by decide +kernel) rfl, zt_t 705 (by decide +kernel) rfl⟩
def M_X10_blur : zMt := (yX10_blur, cX10_blur, 2, (some .int), 1, 4, 90)
theorem mV_X10_blur : zm_V M_X10_blur := ⟨⟨zt_t 716 (by decide +kernel) rfl, zt_t 1 (by decide +kernel) rfl, by decide +kernel⟩, zt_t 714 (by decide +kernel) rfl, zt_t 715 (by decide +kernel) rfl⟩
def M_X10_read : zMt := (yX10_read, cX10_read, 7, (some .long), 4, 3, 77)
theorem mV_X10_read : zm_V M_X10_read := ⟨⟨zt_t 732 (by decide +kernel) rfl, zt_t 1 (by decide +kernel) rfl, by decide +kernel⟩, zt_t 730 (by decide +kernel) rfl, zt_t 731 (by decide +kernel) rfl⟩
def M_X10_readShade : zMt := (yX10_readShade, cX10_readShade, 3, (some .int), 2, 4, 99)
theorem mV_X10_readShade : zm_V M_X10_readShade := ⟨⟨zt_t 749 (by decide +kernel) rfl, zt_t 1 (by decide +kernel) rfl, by decide +kernel⟩, zt_t 747 (by decide +kernel) rfl, zt_t 748 (by decide +kernel) rfl⟩
def M_X10_commonDivisor : zMt := (yX10_commonDivisor, cX10_commonDivisor, 11, (some .long), 2, 0, 0)
theorem mS_X10_commonDivisor : zm_S M_X10_commonDivisor := ⟨⟨zt_t 745 (by decide +kernel) rfl, zt_t 1 (by decide +kernel) rfl, by decide +kernel⟩, zt_t 744 (by decide +kernel) rfl⟩
def M_X10_smooth : zMt := (yX10_smooth, cX10_smooth, 7, (some .int), 6, 5, 147)
theorem mV_X10_smooth : zm_V M_X10_smooth := ⟨⟨zt_t 762 (by decide +kernel) rfl, zt_t 1 (by decide +kernel) rfl, by decide +kernel⟩, zt_t 760 (by decide +kernel) rfl, zt_t 761 (by decide +kernel) rfl⟩
def M_X10_box : zMt := (yX10_box, cX10_box, 4, (some .int), 3, 6, 175)
theorem mV_X10_box : zm_V M_X10_box := ⟨⟨zt_t 773 (by decide +kernel) rfl, zt_t 1 (by decide +kernel) rfl, by decide +kernel⟩, zt_t 771 (by decide +kernel) rfl, zt_t 772 (by decide +kernel) rfl⟩
def M_X10_median : zMt := (yX10_median, cX10_median, 4, (some .int), 3, 6, 175)
theorem mV_X10_median : zm_V M_X10_median := ⟨⟨zt_t 798 (by decide +kernel) rfl, zt_t 1 (by decide +kernel) rfl, by decide +kernel⟩, zt_t 796 (by decide +kernel) rfl, zt_t 797 (by decide +kernel) rfl⟩
def M_X10_mix : zMt := (yX10_mix, cX10_mix, 8, (some .boolean), 4, 4, 124)
theorem mV_X10_mix : zm_V M_X10_mix := ⟨⟨zt_t 802 (by decide +kernel) rfl, zt_t 1 (by decide +kernel) rfl, by decide +kernel⟩, zt_t 800 (by decide +kernel) rfl, zt_t 801 (by decide +kernel) rfl⟩
def M_X10_above : zMt := (yX10_above, cX10_above, 8, (some .int), 3, 4, 124)
theorem mV_X10_above : zm_V M_X10_above := ⟨⟨zt_t 808 (by decide +kernel) rfl, zt_t 1 (by decide +kernel) rfl, by decide +kernel⟩, zt_t 806 (by decide +kernel) rfl, zt_t 807 (by decide +kernel) rfl⟩
def M_X10_levels : zMt := (yX10_levels, cX10_levels, 6, (some .int), 3, 5, 147)
theorem mV_X10_levels : zm_V M_X10_levels := ⟨⟨zt_t 812 (by decide +kernel) rfl, zt_t 1 (by decide +kernel) rfl, by decide +kernel⟩, zt_t 810 (by decide +kernel) rfl, zt_t 811 (by decide +kernel) rfl⟩
def M_X10_stretch : zMt := (yX10_stretch, cX10_stretch, 6, (some .int), 2, 5, 147)
theorem mV_X10_stretch : zm_V M_X10_stretch := ⟨⟨zt_t 816 (by decide +kernel) rfl, zt_t 1 (by decide +kernel) rfl, by decide +kernel⟩, zt_t 814 (by decide +kernel) rfl, zt_t 815 (by decide +kernel) rfl⟩
def M_X10_larger : zMt := (yX10_larger, cX10_larger, 7, (some .boolean), 3, 4, 124)
theorem mV_X10_larger : zm_V M_X10_larger := ⟨⟨zt_t 820 (by decide +kernel) rfl, zt_t 1 (by decide +kernel) rfl, by decide +kernel⟩, zt_t 818 (by decide +kernel) rfl, zt_t 819 (by decide +kernel) rfl⟩
def M_X10_smaller : zMt := (yX10_smaller, cX10_smaller, 7, (some .boolean), 3, 4, 124)
theorem mV_X10_smaller : zm_V M_X10_smaller := ⟨⟨zt_t 824 (by decide +kernel) rfl, zt_t 1 (by decide +kernel) rfl, by decide +kernel⟩, zt_t 822 (by decide +kernel) rfl, zt_t 823 (by decide +kernel) rfl⟩
def M_X10_rests : zMt := (yX10_rests, cX10_rests, 6, (some .int), 4, 5, 133)
theorem mV_X10_rests : zm_V M_X10_rests := ⟨⟨zt_t 828 (by decide +kernel) rfl, zt_t 1 (by decide +kernel) rfl, by decide +kernel⟩, zt_t 826 (by decide +kernel) rfl, zt_t 827 (by decide +kernel) rfl⟩
def M_X10_edges : zMt := (yX10_edges, cX10_edges, 3, (some .int), 2, 4, 91)
theorem mV_X10_edges : zm_V M_X10_edges := ⟨⟨zt_t 832 (by decide +kernel) rfl, zt_t 1 (by decide +kernel) rfl, by decide +kernel⟩, zt_t 830 (by decide +kernel) rfl, zt_t 831 (by decide +kernel) rfl⟩
def M_X10_kept : zMt := (yX10_kept, cX10_kept, 7, (some .int), 6, 5, 133)
theorem mV_X10_kept : zm_V M_X10_kept := ⟨⟨zt_t 851 (by decide +kernel) rfl, zt_t 1 (by decide +kernel) rfl, by decide +kernel⟩, zt_t 849 (by decide +kernel) rfl, zt_t 850 (by decide +kernel) rfl⟩
def M_X10_flat : zMt := (yX10_flat, cX10_flat, 6, (some .int), 4, 5, 133)
theorem mV_X10_flat : zm_V M_X10_flat := ⟨⟨zt_t 855 (by decide +kernel) rfl, zt_t 1 (by decide +kernel) rfl, by decide +kernel⟩, zt_t 853 (by decide +kernel) rfl, zt_t 854 (by decide +kernel) rfl⟩
def M_X10_smoothToWork : zMt := (yX10_smoothToWork, cX10_smoothToWork, 8, none, 5, 4, 106)
theorem mV_X10_smoothToWork : zm_V M_X10_smoothToWork := ⟨⟨zt_t 769 (by decide +kernel) rfl, zt_t 1 (by decide +kernel) rfl, by decide +kernel⟩, zt_t 768 (by decide +kernel) rfl, zt_p (q := (yX10_smoothToWork, 18)) 20 (by decide +kernel) rfl⟩
def M_X10_actAround : zMt := (yX10_actAround, cX10_actAround, 9, (some .int), 4, 5, 147)
theorem mV_X10_actAround : zm_V M_X10_actAround := ⟨⟨zt_t 777 (by decide +kernel) rfl, zt_t 1 (by decide +kernel) rfl, by decide +kernel⟩, zt_t 776 (by decide +kernel) rfl, zt_p (q := (yX10_actAround, 18)) 21 (by decide +kernel) rfl⟩
def M_X10_edgesOfBoth : zMt := (yX10_edgesOfBoth, cX10_edgesOfBoth, 6, (some .int), 3, 3, 66)
theorem mS_X10_edgesOfBoth : zm_S M_X10_edgesOfBoth := ⟨⟨zt_t 835 (by decide +kernel) rfl, zt_t 1 (by decide +kernel) rfl, by decide +kernel⟩, zt_t 834 (by decide +kernel) rfl⟩
def M_X10_apart : zMt := (yX10_apart, cX10_apart, 9, (some .int), 3, 4, 85)
theorem mV_X10_apart : zm_V M_X10_apart := ⟨⟨zt_t 859 (by decide +kernel) rfl, zt_t 1 (by decide +kernel) rfl, by decide +kernel⟩, zt_t 857 (by decide +kernel) rfl, zt_t 858 (by decide +kernel) rfl⟩
def M_X10_regions : zMt := (yX10_regions, cX10_regions, 3, (some .int), 2, 5, 118)
theorem mV_X10_regions : zm_V M_X10_regions := ⟨⟨zt_t 864 (by decide +kernel) rfl, zt_t 1 (by decide +kernel) rfl, by decide +kernel⟩, zt_t 862 (by decide +kernel) rfl, zt_t 863 (by decide +kernel) rfl⟩
def M_X10_region : zMt := (yX10_region, cX10_region, 5, (some .int), 4, 5, 118)
theorem mV_X10_region : zm_V M_X10_region := ⟨⟨zt_t 889 (by decide +kernel) rfl, zt_t 1 (by decide +kernel) rfl, by decide +kernel⟩, zt_t 887 (by decide +kernel) rfl, zt_t 888 (by decide +kernel) rfl⟩
def M_X10_regionAt : zMt := (yX10_regionAt, cX10_regionAt, 5, (some .int), 4, 5, 118)
theorem mV_X10_regionAt : zm_V M_X10_regionAt := ⟨⟨zt_t 900 (by decide +kernel) rfl, zt_t 1 (by decide +kernel) rfl, by decide +kernel⟩, zt_t 898 (by decide +kernel) rfl, zt_t 899 (by decide +kernel) rfl⟩
def M_X10_steep : zMt := (yX10_steep, cX10_steep, 7, (some .int), 2, 3, 66)
theorem mV_X10_steep : zm_V M_X10_steep := ⟨⟨zt_t 905 (by decide +kernel) rfl, zt_t 1 (by decide +kernel) rfl, by decide +kernel⟩, zt_t 903 (by decide +kernel) rfl, zt_t 904 (by decide +kernel) rfl⟩
def M_X10_ranked : zMt := (yX10_ranked, cX10_ranked, 3, (some .int), 2, 5, 113)
theorem mV_X10_ranked : zm_V M_X10_ranked := ⟨⟨zt_t 909 (by decide +kernel) rfl, zt_t 1 (by decide +kernel) rfl, by decide +kernel⟩, zt_t 907 (by decide +kernel) rfl, zt_t 908 (by decide +kernel) rfl⟩
def M_X10_line : zMt := (yX10_line, cX10_line, 5, (some .int), 3, 4, 92)
theorem mV_X10_line : zm_V M_X10_line := ⟨⟨zt_t 914 (by decide +kernel) rfl, zt_t 1 (by decide +kernel) rfl, by decide +kernel⟩, zt_t 912 (by decide +kernel) rfl, zt_t 913 (by decide +kernel) rfl⟩
def M_X10_pairs : zMt := (yX10_pairs, cX10_pairs, 2, (some .int), 1, 3, 72)
theorem mV_X10_pairs : zm_V M_X10_pairs := ⟨⟨zt_t 918 (by decide +kernel) rfl, zt_t 1 (by decide +kernel) rfl, by decide +kernel⟩, zt_t 916 (by decide +kernel) rfl, zt_t 917 (by decide +kernel) rfl⟩
def M_X10_pair : zMt := (yX10_pair, cX10_pair, 3, (some .int), 2, 3, 72)
theorem mV_X10_pair : zm_V M_X10_pair := ⟨⟨zt_t 948 (by decide +kernel) rfl, zt_t 1 (by decide +kernel) rfl, by decide +kernel⟩, zt_t 946 (by decide +kernel) rfl, zt_t 947 (by decide +kernel) rfl⟩
def M_X10_undo : zMt := (yX10_undo, cX10_undo, 3, (some .int), 0, 2, 81)
theorem mV_X10_undo : zm_V M_X10_undo := ⟨⟨zt_t 952 (by decide +kernel) rfl, zt_t 1 (by decide +kernel) rfl, by decide +kernel⟩, zt_t 950 (by decide +kernel) rfl, zt_t 951 (by decide +kernel) rfl⟩
def M_X10_write : zMt := (yX10_write, cX10_write, 5, (some .int), 1, 3, 63)
theorem mV_X10_write : zm_V M_X10_write := ⟨⟨zt_t 961 (by decide +kernel) rfl, zt_t 1 (by decide +kernel) rfl, by decide +kernel⟩, zt_t 959 (by decide +kernel) rfl, zt_t 960 (by decide +kernel) rfl⟩
def M_X10_octet : zMt := (yX10_octet, cX10_octet, 2, (some .int), 1, 1, 22)
theorem mV_X10_octet : zm_V M_X10_octet := ⟨⟨zt_t 970 (by decide +kernel) rfl, zt_t 1 (by decide +kernel) rfl, by decide +kernel⟩, zt_t 968 (by decide +kernel) rfl, zt_t 969 (by decide +kernel) rfl⟩
def M_X10_letter : zMt := (yX10_letter, cX10_letter, 3, (some .int), 2, 2, 44)
theorem mV_X10_letter : zm_V M_X10_letter := ⟨⟨zt_t 986 (by decide +kernel) rfl, zt_t 1 (by decide +kernel) rfl, by decide +kernel⟩, zt_t 984 (by decide +kernel) rfl, zt_t 985 (by decide +kernel) rfl⟩
def M_X10_bytes : zMt := (yX10_bytes, cX10_bytes, 1, (some .int), 0, 0, 0)
theorem mV_X10_bytes : zm_V M_X10_bytes := ⟨⟨zt_t 974 (by decide +kernel) rfl, zt_t 1 (by decide +kernel) rfl, by decide +kernel⟩, zt_t 972 (by decide +kernel) rfl, zt_t 973 (by decide +kernel) rfl⟩
def M_X10_trouble : zMt := (yX10_trouble, cX10_trouble, 1, (some .int), 0, 0, 0)
theorem mV_X10_trouble : zm_V M_X10_trouble := ⟨⟨zt_t 978 (by decide +kernel) rfl, zt_t 1 (by decide +kernel) rfl, by decide +kernel⟩, zt_t 976 (by decide +kernel) rfl, zt_t 977 (by decide +kernel) rfl⟩
def M_X10_writeByte : zMt := (yX10_writeByte, cX10_writeByte, 2, none, 1, 0, 0)
theorem mV_X10_writeByte : zm_V M_X10_writeByte := ⟨⟨zt_t 965 (by decide +kernel) rfl, zt_t 1 (by decide +kernel) rfl, by decide +kernel⟩, zt_t 964 (by decide +kernel) rfl, zt_p (q := (yX10_writeByte, 18)) 29 (by decide +kernel) rfl⟩
def M_X10_refused : zMt := (yX10_refused, cX10_refused, 2, (some .boolean), 1, 0, 0)
theorem mV_X10_refused : zm_V M_X10_refused := ⟨⟨zt_t 351 (by decide +kernel) rfl, zt_t 1 (by decide +kernel) rfl, by decide +kernel⟩, zt_t 350 (by decide +kernel) rfl, zt_p (q := (yX10_refused, 18)) 0 (by decide +kernel) rfl⟩
def M_X10_within : zMt := (yX10_within, cX10_within, 3, (some .boolean), 3, 0, 0)
theorem mS_X10_within : zm_S M_X10_within := ⟨⟨zt_t 347 (by decide +kernel) rfl, zt_t 1 (by decide +kernel) rfl, by decide +kernel⟩, zt_t 346 (by decide +kernel) rfl⟩
def M_X10_isPlace : zMt := (yX10_isPlace, cX10_isPlace, 1, (some .boolean), 1, 1, 22)
theorem mS_X10_isPlace : zm_S M_X10_isPlace := ⟨⟨zt_t 486 (by decide +kernel) rfl, zt_t 1 (by decide +kernel) rfl, by decide +kernel⟩, zt_t 485 (by decide +kernel) rfl⟩
def M_X10_isShade : zMt := (yX10_isShade, cX10_isShade, 1, (some .boolean), 1, 1, 22)
theorem mS_X10_isShade : zm_S M_X10_isShade := ⟨⟨zt_t 534 (by decide +kernel) rfl, zt_t 1 (by decide +kernel) rfl, by decide +kernel⟩, zt_t 533 (by decide +kernel) rfl⟩
def M_X10_isGridSize : zMt := (yX10_isGridSize, cX10_isGridSize, 2, (some .boolean), 2, 1, 22)
theorem mS_X10_isGridSize : zm_S M_X10_isGridSize := ⟨⟨zt_t 612 (by decide +kernel) rfl, zt_t 1 (by decide +kernel) rfl, by decide +kernel⟩, zt_t 611 (by decide +kernel) rfl⟩
def M_X10_isBlurs : zMt := (yX10_isBlurs, cX10_isBlurs, 1, (some .boolean), 1, 1, 22)
theorem mS_X10_isBlurs : zm_S M_X10_isBlurs := ⟨⟨zt_t 765 (by decide +kernel) rfl, zt_t 1 (by decide +kernel) rfl, by decide +kernel⟩, zt_t 764 (by decide +kernel) rfl⟩
def M_X10_told : zMt := (yX10_told, cX10_told, 2, (some .boolean), 1, 2, 42)
theorem mV_X10_told : zm_V M_X10_told := ⟨⟨zt_t 483 (by decide +kernel) rfl, zt_t 1 (by decide +kernel) rfl, by decide +kernel⟩, zt_t 482 (by decide +kernel) rfl, zt_p (q := (yX10_told, 18)) 8 (by decide +kernel) rfl⟩
def M_X10_hasDot : zMt := (yX10_hasDot, cX10_hasDot, 4, (some .boolean), 3, 3, 63)
theorem mV_X10_hasDot : zm_V M_X10_hasDot := ⟨⟨zt_t 546 (by decide +kernel) rfl, zt_t 1 (by decide +kernel) rfl, by decide +kernel⟩, zt_t 545 (by decide +kernel) rfl, zt_p (q := (yX10_hasDot, 18)) 11 (by decide +kernel) rfl⟩
def M_X10_alike : zMt := (yX10_alike, cX10_alike, 3, (some .boolean), 2, 3, 63)
theorem mV_X10_alike : zm_V M_X10_alike := ⟨⟨zt_t 616 (by decide +kernel) rfl, zt_t 1 (by decide +kernel) rfl, by decide +kernel⟩, zt_t 615 (by decide +kernel) rfl, zt_p (q := (yX10_alike, 18)) 15 (by decide +kernel) rfl⟩
def M_X10_actOn : zMt := (yX10_actOn, cX10_actOn, 2, none, 1, 3, 103)
theorem mV_X10_actOn : zm_V M_X10_actOn := ⟨⟨zt_t 561 (by decide +kernel) rfl, zt_t 1 (by decide +kernel) rfl, by decide +kernel⟩, zt_t 560 (by decide +kernel) rfl, zt_p (q := (yX10_actOn, 18)) 12 (by decide +kernel) rfl⟩
def M_X10_actCountingOthers : zMt := (yX10_actCountingOthers, cX10_actCountingOthers, 4, (some .int), 2, 4, 124)
theorem mV_X10_actCountingOthers : zm_V M_X10_actCountingOthers := ⟨⟨zt_t 602 (by decide +kernel) rfl, zt_t 1 (by decide +kernel) rfl, by decide +kernel⟩, zt_t 601 (by decide +kernel) rfl, zt_p (q := (yX10_actCountingOthers, 18)) 14 (by decide +kernel) rfl⟩
def M_X10_othersIn : zMt := (yX10_othersIn, cX10_othersIn, 4, (some .int), 2, 1, 20)
theorem mS_X10_othersIn : zm_S M_X10_othersIn := ⟨⟨zt_t 605 (by decide +kernel) rfl, zt_t 1 (by decide +kernel) rfl, by decide +kernel⟩, zt_t 604 (by decide +kernel) rfl⟩
def M_X10_tallied : zMt := (yX10_tallied, cX10_tallied, 2, (some (.object "ShadeGrid$Tally")), 1, 4, 92)
theorem mV_X10_tallied : zm_V M_X10_tallied := ⟨⟨zt_t 510 (by decide +kernel) rfl, zt_t 1 (by decide +kernel) rfl, by decide +kernel⟩, zt_t 509 (by decide +kernel) rfl, zt_p (q := (yX10_tallied, 18)) 9 (by decide +kernel) rfl⟩
def M_X10_talliedAround : zMt := (yX10_talliedAround, cX10_talliedAround, 5, (some (.object "ShadeGrid$Tally")), 4, 4, 92)
theorem mV_X10_talliedAround : zm_V M_X10_talliedAround := ⟨⟨zt_t 781 (by decide +kernel) rfl, zt_t 1 (by decide +kernel) rfl, by decide +kernel⟩, zt_t 780 (by decide +kernel) rfl, zt_p (q := (yX10_talliedAround, 18)) 22 (by decide +kernel) rfl⟩
def M_X10_talliedPart : zMt := (yX10_talliedPart, cX10_talliedPart, 10, (some (.object "ShadeGrid$Tally")), 5, 3, 63)
theorem mV_X10_talliedPart : zm_V M_X10_talliedPart := ⟨⟨zt_t 514 (by decide +kernel) rfl, zt_t 1 (by decide +kernel) rfl, by decide +kernel⟩, zt_t 513 (by decide +kernel) rfl, zt_p (q := (yX10_talliedPart, 18)) 10 (by decide +kernel) rfl⟩
def M_X10_held : zMt := (yX10_held, cX10_held, 1, (some .int), 1, 1, 21)
theorem mS_X10_held : zm_S M_X10_held := ⟨⟨zt_t 598 (by decide +kernel) rfl, zt_t 1 (by decide +kernel) rfl, by decide +kernel⟩, zt_t 597 (by decide +kernel) rfl⟩
def M_X10_nearest : zMt := (yX10_nearest, cX10_nearest, 4, (some .int), 2, 0, 0)
theorem mS_X10_nearest : zm_S M_X10_nearest := ⟨⟨zt_t 757 (by decide +kernel) rfl, zt_t 1 (by decide +kernel) rfl, by decide +kernel⟩, zt_t 756 (by decide +kernel) rfl⟩
def M_X11_thrown : zMt := (yX11_thrown, cX11_thrown, 1, (some .int), 0, 0, 0)
theorem mV_X11_thrown : zm_V M_X11_thrown := ⟨⟨zt_t 1210 (by decide +kernel) rfl, zt_t 12 (by decide +kernel) rfl, by decide +kernel⟩, zt_t 1208 (by decide +kernel) rfl, zt_t 1209 (by decide +kernel) rfl⟩
def M_X11_refused : zMt := (yX11_refused, cX11_refused, 2, (some .int), 1, 0, 0)
theorem mV_X11_refused : zm_V M_X11_refused := ⟨⟨zt_t 1225 (by decide +kernel) rfl, zt_t 12 (by decide +kernel) rfl, by decide +kernel⟩, zt_t 1224 (by decide +kernel) rfl, zt_p (q := (yX11_refused, 47)) 31 (by decide +kernel) rfl⟩
def M_X11_good : zMt := (yX11_good, cX11_good, 2, (some .int), 1, 0, 0)
theorem mV_X11_good : zm_V M_X11_good := ⟨⟨zt_t 1265 (by decide +kernel) rfl, zt_t 12 (by decide +kernel) rfl, by decide +kernel⟩, zt_t 1264 (by decide +kernel) rfl, zt_p (q := (yX11_good, 47)) 41 (by decide +kernel) rfl⟩
def M_X11_says : zMt := (yX11_says, cX11_says, 3, (some .long), 1, 0, 0)
theorem mV_X11_says : zm_V M_X11_says := ⟨⟨zt_t 1407 (by decide +kernel) rfl, zt_t 12 (by decide +kernel) rfl, by decide +kernel⟩, zt_t 1406 (by decide +kernel) rfl, zt_p (q := (yX11_says, 47)) 60 (by decide +kernel) rfl⟩
def M_X11_granted : zMt := (yX11_granted, cX11_granted, 2, (some .boolean), 1, 0, 0)
theorem mV_X11_granted : zm_V M_X11_granted := ⟨⟨zt_t 1333 (by decide +kernel) rfl, zt_t 12 (by decide +kernel) rfl, by decide +kernel⟩, zt_t 1332 (by decide +kernel) rfl, zt_p (q := (yX11_granted, 47)) 50 (by decide +kernel) rfl⟩
def M_X11_in : zMt := (yX11_in, cX11_in, 3, (some .boolean), 3, 0, 0)
theorem mS_X11_in : zm_S M_X11_in := ⟨⟨zt_t 1221 (by decide +kernel) rfl, zt_t 12 (by decide +kernel) rfl, by decide +kernel⟩, zt_t 1220 (by decide +kernel) rfl⟩
def M_X11_feed : zMt := (yX11_feed, cX11_feed, 8, (some .int), 5, 0, 0)
theorem mV_X11_feed : zm_V M_X11_feed := ⟨⟨zt_t 1214 (by decide +kernel) rfl, zt_t 12 (by decide +kernel) rfl, by decide +kernel⟩, zt_t 1212 (by decide +kernel) rfl, zt_t 1213 (by decide +kernel) rfl⟩
def M_X11_flaw : zMt := (yX11_flaw, cX11_flaw, 2, none, 1, 0, 0)
theorem mV_X11_flaw : zm_V M_X11_flaw := ⟨⟨zt_t 1245 (by decide +kernel) rfl, zt_t 12 (by decide +kernel) rfl, by decide +kernel⟩, zt_t 1244 (by decide +kernel) rfl, zt_p (q := (yX11_flaw, 47)) 36 (by decide +kernel) rfl⟩
def M_X11_isLetterAt : zMt := (yX11_isLetterAt, cX11_isLetterAt, 2, (some .boolean), 1, 1, 22)
theorem mV_X11_isLetterAt : zm_V M_X11_isLetterAt := ⟨⟨zt_t 1233 (by decide +kernel) rfl, zt_t 12 (by decide +kernel) rfl, by decide +kernel⟩, zt_t 1232 (by decide +kernel) rfl, zt_p (q := (yX11_isLetterAt, 47)) 33 (by decide +kernel) rfl⟩
def M_X11_goOn : zMt := (yX11_goOn, cX11_goOn, 1, none, 0, 2, 43)
theorem mV_X11_goOn : zm_V M_X11_goOn := ⟨⟨zt_t 1229 (by decide +kernel) rfl, zt_t 12 (by decide +kernel) rfl, by decide +kernel⟩, zt_t 1228 (by decide +kernel) rfl, zt_p (q := (yX11_goOn, 47)) 32 (by decide +kernel) rfl⟩
def M_X11_isSign : zMt := (yX11_isSign, cX11_isSign, 2, (some .boolean), 1, 0, 0)
theorem mV_X11_isSign : zm_V M_X11_isSign := ⟨⟨zt_t 1257 (by decide +kernel) rfl, zt_t 12 (by decide +kernel) rfl, by decide +kernel⟩, zt_t 1256 (by decide +kernel) rfl, zt_p (q := (yX11_isSign, 47)) 39 (by decide +kernel) rfl⟩
def M_X11_isPic : zMt := (yX11_isPic, cX11_isPic, 1, (some .boolean), 0, 0, 0)
theorem mV_X11_isPic : zm_V M_X11_isPic := ⟨⟨zt_t 1241 (by decide +kernel) rfl, zt_t 12 (by decide +kernel) rfl, by decide +kernel⟩, zt_t 1240 (by decide +kernel) rfl, zt_p (q := (yX11_isPic, 47)) 35 (by decide +kernel) rfl⟩
def M_X11_isLike : zMt := (yX11_isLike, cX11_isLike, 4, (some .boolean), 1, 0, 0)
theorem mV_X11_isLike : zm_V M_X11_isLike := ⟨⟨zt_t 1249 (by decide +kernel) rfl, zt_t 12 (by decide +kernel) rfl, by decide +kernel⟩, zt_t 1248 (by decide +kernel) rfl, zt_p (q := (yX11_isLike, 47)) 37 (by decide +kernel) rfl⟩
def M_X11_readRow : zMt := (yX11_readRow, cX11_readRow, 6, none, 2, 3, 63)
theorem mV_X11_readRow : zm_V M_X11_readRow := ⟨⟨zt_t 1253 (by decide +kernel) rfl, zt_t 12 (by decide +kernel) rfl, by decide +kernel⟩, zt_t 1252 (by decide +kernel) rfl, zt_p (q := (yX11_readRow, 47)) 38 (by decide +kernel) rfl⟩
def M_X11_readPicture : zMt := (yX11_readPicture, cX11_readPicture, 3, none, 0, 4, 88)
theorem mV_X11_readPicture : zm_V M_X11_readPicture := ⟨⟨zt_t 1237 (by decide +kernel) rfl, zt_t 12 (by decide +kernel) rfl, by decide +kernel⟩, zt_t 1236 (by decide +kernel) rfl, zt_p (q := (yX11_readPicture, 47)) 34 (by decide +kernel) rfl⟩
def M_X11_text : zMt := (yX11_text, cX11_text, 2, (some .int), 1, 5, 110)
theorem mV_X11_text : zm_V M_X11_text := ⟨⟨zt_t 1218 (by decide +kernel) rfl, zt_t 12 (by decide +kernel) rfl, by decide +kernel⟩, zt_t 1216 (by decide +kernel) rfl, zt_t 1217 (by decide +kernel) rfl⟩
def M_X11_holds : zMt := (yX11_holds, cX11_holds, 3, none, 0, 0, 0)
theorem mV_X11_holds : zm_V M_X11_holds := ⟨⟨zt_t 1261 (by decide +kernel) rfl, zt_t 12 (by decide +kernel) rfl, by decide +kernel⟩, zt_t 1260 (by decide +kernel) rfl, zt_p (q := (yX11_holds, 47)) 40 (by decide +kernel) rfl⟩
def M_X11_fault : zMt := (yX11_fault, cX11_fault, 1, (some .int), 0, 0, 0)
theorem mV_X11_fault : zm_V M_X11_fault := ⟨⟨zt_t 1269 (by decide +kernel) rfl, zt_t 12 (by decide +kernel) rfl, by decide +kernel⟩, zt_t 1267 (by decide +kernel) rfl, zt_t 1268 (by decide +kernel) rfl⟩
def M_X11_where : zMt := (yX11_where, cX11_where, 1, (some .int), 0, 0, 0)
theorem mV_X11_where : zm_V M_X11_where := ⟨⟨zt_t 1273 (by decide +kernel) rfl, zt_t 12 (by decide +kernel) rfl, by decide +kernel⟩, zt_t 1271 (by decide +kernel) rfl, zt_t 1272 (by decide +kernel) rfl⟩
def M_X11_wide : zMt := (yX11_wide, cX11_wide, 2, (some .int), 1, 0, 0)
theorem mV_X11_wide : zm_V M_X11_wide := ⟨⟨zt_t 1289 (by decide +kernel) rfl, zt_t 12 (by decide +kernel) rfl, by decide +kernel⟩, zt_t 1288 (by decide +kernel) rfl, zt_p (q := (yX11_wide, 47)) 43 (by decide +kernel) rfl⟩
def M_X11_high : zMt := (yX11_high, cX11_high, 2, (some .int), 1, 0, 0)
theorem mV_X11_high : zm_V M_X11_high := ⟨⟨zt_t 1293 (by decide +kernel) rfl, zt_t 12 (by decide +kernel) rfl, by decide +kernel⟩, zt_t 1292 (by decide +kernel) rfl, zt_p (q := (yX11_high, 47)) 44 (by decide +kernel) rfl⟩
def M_X11_dotOf : zMt := (yX11_dotOf, cX11_dotOf, 4, (some .int), 3, 0, 0)
theorem mV_X11_dotOf : zm_V M_X11_dotOf := ⟨⟨zt_t 1301 (by decide +kernel) rfl, zt_t 12 (by decide +kernel) rfl, by decide +kernel⟩, zt_t 1300 (by decide +kernel) rfl, zt_p (q := (yX11_dotOf, 47)) 46 (by decide +kernel) rfl⟩
def M_X11_puts : zMt := (yX11_puts, cX11_puts, 5, none, 4, 0, 0)
theorem mV_X11_puts : zm_V M_X11_puts := ⟨⟨zt_t 1325 (by decide +kernel) rfl, zt_t 12 (by decide +kernel) rfl, by decide +kernel⟩, zt_t 1324 (by decide +kernel) rfl, zt_p (q := (yX11_puts, 47)) 49 (by decide +kernel) rfl⟩
def M_X11_isPicture : zMt := (yX11_isPicture, cX11_isPicture, 2, (some .boolean), 1, 1, 22)
theorem mV_X11_isPicture : zm_V M_X11_isPicture := ⟨⟨zt_t 1285 (by decide +kernel) rfl, zt_t 12 (by decide +kernel) rfl, by decide +kernel⟩, zt_t 1284 (by decide +kernel) rfl, zt_p (q := (yX11_isPicture, 47)) 42 (by decide +kernel) rfl⟩
def M_X11_isDot : zMt := (yX11_isDot, cX11_isDot, 4, (some .boolean), 3, 2, 43)
theorem mV_X11_isDot : zm_V M_X11_isDot := ⟨⟨zt_t 1309 (by decide +kernel) rfl, zt_t 12 (by decide +kernel) rfl, by decide +kernel⟩, zt_t 1308 (by decide +kernel) rfl, zt_p (q := (yX11_isDot, 47)) 47 (by decide +kernel) rfl⟩
def M_X11_areAsWide : zMt := (yX11_areAsWide, cX11_areAsWide, 3, (some .boolean), 2, 1, 21)
theorem mV_X11_areAsWide : zm_V M_X11_areAsWide := ⟨⟨zt_t 1372 (by decide +kernel) rfl, zt_t 12 (by decide +kernel) rfl, by decide +kernel⟩, zt_t 1371 (by decide +kernel) rfl, zt_p (q := (yX11_areAsWide, 47)) 54 (by decide +kernel) rfl⟩
def M_X11_remembers : zMt := (yX11_remembers, cX11_remembers, 2, none, 0, 0, 0)
theorem mV_X11_remembers : zm_V M_X11_remembers := ⟨⟨zt_t 1321 (by decide +kernel) rfl, zt_t 12 (by decide +kernel) rfl, by decide +kernel⟩, zt_t 1320 (by decide +kernel) rfl, zt_p (q := (yX11_remembers, 47)) 48 (by decide +kernel) rfl⟩
def M_X11_undo : zMt := (yX11_undo, cX11_undo, 2, (some .int), 0, 1, 21)
theorem mV_X11_undo : zm_V M_X11_undo := ⟨⟨zt_t 1277 (by decide +kernel) rfl, zt_t 12 (by decide +kernel) rfl, by decide +kernel⟩, zt_t 1275 (by decide +kernel) rfl, zt_t 1276 (by decide +kernel) rfl⟩
def M_X11_begins : zMt := (yX11_begins, cX11_begins, 3, none, 2, 0, 0)
theorem mV_X11_begins : zm_V M_X11_begins := ⟨⟨zt_t 1337 (by decide +kernel) rfl, zt_t 12 (by decide +kernel) rfl, by decide +kernel⟩, zt_t 1336 (by decide +kernel) rfl, zt_p (q := (yX11_begins, 47)) 51 (by decide +kernel) rfl⟩
def M_X11_becomes : zMt := (yX11_becomes, cX11_becomes, 3, none, 1, 1, 21)
theorem mV_X11_becomes : zm_V M_X11_becomes := ⟨⟨zt_t 1341 (by decide +kernel) rfl, zt_t 12 (by decide +kernel) rfl, by decide +kernel⟩, zt_t 1340 (by decide +kernel) rfl, zt_p (q := (yX11_becomes, 47)) 52 (by decide +kernel) rfl⟩
def M_X11_others : zMt := (yX11_others, cX11_others, 5, (some .int), 1, 1, 23)
theorem mV_X11_others : zm_V M_X11_others := ⟨⟨zt_t 1361 (by decide +kernel) rfl, zt_t 12 (by decide +kernel) rfl, by decide +kernel⟩, zt_t 1360 (by decide +kernel) rfl, zt_p (q := (yX11_others, 47)) 53 (by decide +kernel) rfl⟩
def M_X11_manyOf : zMt := (yX11_manyOf, cX11_manyOf, 6, (some .int), 2, 1, 23)
theorem mV_X11_manyOf : zm_V M_X11_manyOf := ⟨⟨zt_t 1297 (by decide +kernel) rfl, zt_t 12 (by decide +kernel) rfl, by decide +kernel⟩, zt_t 1296 (by decide +kernel) rfl, zt_p (q := (yX11_manyOf, 47)) 45 (by decide +kernel) rfl⟩
def M_X11_about : zMt := (yX11_about, cX11_about, 9, (some .int), 2, 2, 48)
theorem mV_X11_about : zm_V M_X11_about := ⟨⟨zt_t 1281 (by decide +kernel) rfl, zt_t 12 (by decide +kernel) rfl, by decide +kernel⟩, zt_t 1279 (by decide +kernel) rfl, zt_t 1280 (by decide +kernel) rfl⟩
def M_X11_dot : zMt := (yX11_dot, cX11_dot, 4, (some .int), 3, 3, 66)
theorem mV_X11_dot : zm_V M_X11_dot := ⟨⟨zt_t 1305 (by decide +kernel) rfl, zt_t 12 (by decide +kernel) rfl, by decide +kernel⟩, zt_t 1303 (by decide +kernel) rfl, zt_t 1304 (by decide +kernel) rfl⟩
def M_X11_often : zMt := (yX11_often, cX11_often, 3, (some .int), 2, 2, 48)
theorem mV_X11_often : zm_V M_X11_often := ⟨⟨zt_t 1313 (by decide +kernel) rfl, zt_t 12 (by decide +kernel) rfl, by decide +kernel⟩, zt_t 1311 (by decide +kernel) rfl, zt_t 1312 (by decide +kernel) rfl⟩
def M_X11_set : zMt := (yX11_set, cX11_set, 6, (some .int), 4, 3, 66)
theorem mV_X11_set : zm_V M_X11_set := ⟨⟨zt_t 1317 (by decide +kernel) rfl, zt_t 12 (by decide +kernel) rfl, by decide +kernel⟩, zt_t 1315 (by decide +kernel) rfl, zt_t 1316 (by decide +kernel) rfl⟩
def M_X11_fill : zMt := (yX11_fill, cX11_fill, 7, (some .boolean), 4, 2, 43)
theorem mV_X11_fill : zm_V M_X11_fill := ⟨⟨zt_t 1329 (by decide +kernel) rfl, zt_t 12 (by decide +kernel) rfl, by decide +kernel⟩, zt_t 1327 (by decide +kernel) rfl, zt_t 1328 (by decide +kernel) rfl⟩
def M_X11_turn : zMt := (yX11_turn, cX11_turn, 7, (some .boolean), 3, 2, 43)
theorem mV_X11_turn : zm_V M_X11_turn := ⟨⟨zt_t 1345 (by decide +kernel) rfl, zt_t 12 (by decide +kernel) rfl, by decide +kernel⟩, zt_t 1343 (by decide +kernel) rfl, zt_t 1344 (by decide +kernel) rfl⟩
def M_X11_part : zMt := (yX11_part, cX11_part, 9, (some .boolean), 6, 3, 66)
theorem mV_X11_part : zm_V M_X11_part := ⟨⟨zt_t 1349 (by decide +kernel) rfl, zt_t 12 (by decide +kernel) rfl, by decide +kernel⟩, zt_t 1347 (by decide +kernel) rfl, zt_t 1348 (by decide +kernel) rfl⟩
def M_X11_noise : zMt := (yX11_noise, cX11_noise, 9, (some .int), 3, 2, 47)
theorem mV_X11_noise : zm_V M_X11_noise := ⟨⟨zt_t 1353 (by decide +kernel) rfl, zt_t 12 (by decide +kernel) rfl, by decide +kernel⟩, zt_t 1351 (by decide +kernel) rfl, zt_t 1352 (by decide +kernel) rfl⟩
def M_X11_nodeAt : zMt := (yX11_nodeAt, cX11_nodeAt, 3, (some .int), 3, 0, 0)
theorem mS_X11_nodeAt : zm_S M_X11_nodeAt := ⟨⟨zt_t 1383 (by decide +kernel) rfl, zt_t 12 (by decide +kernel) rfl, by decide +kernel⟩, zt_t 1382 (by decide +kernel) rfl⟩
def M_X11_lies : zMt := (yX11_lies, cX11_lies, 5, none, 4, 1, 22)
theorem mV_X11_lies : zm_V M_X11_lies := ⟨⟨zt_t 1380 (by decide +kernel) rfl, zt_t 12 (by decide +kernel) rfl, by decide +kernel⟩, zt_t 1379 (by decide +kernel) rfl, zt_p (q := (yX11_lies, 47)) 56 (by decide +kernel) rfl⟩
def M_X11_partOf : zMt := (yX11_partOf, cX11_partOf, 7, (some .long), 2, 0, 0)
theorem mV_X11_partOf : zm_V M_X11_partOf := ⟨⟨zt_t 1391 (by decide +kernel) rfl, zt_t 12 (by decide +kernel) rfl, by decide +kernel⟩, zt_t 1390 (by decide +kernel) rfl, zt_p (q := (yX11_partOf, 47)) 58 (by decide +kernel) rfl⟩
def M_X11_nodeOf : zMt := (yX11_nodeOf, cX11_nodeOf, 2, (some .int), 1, 0, 0)
theorem mV_X11_nodeOf : zm_V M_X11_nodeOf := ⟨⟨zt_t 1387 (by decide +kernel) rfl, zt_t 12 (by decide +kernel) rfl, by decide +kernel⟩, zt_t 1386 (by decide +kernel) rfl, zt_p (q := (yX11_nodeOf, 47)) 57 (by decide +kernel) rfl⟩
def M_X11_spreads : zMt := (yX11_spreads, cX11_spreads, 9, none, 5, 2, 46)
theorem mV_X11_spreads : zm_V M_X11_spreads := ⟨⟨zt_t 1376 (by decide +kernel) rfl, zt_t 12 (by decide +kernel) rfl, by decide +kernel⟩, zt_t 1375 (by decide +kernel) rfl, zt_p (q := (yX11_spreads, 47)) 55 (by decide +kernel) rfl⟩
def M_X11_strideOf : zMt := (yX11_strideOf, cX11_strideOf, 1, (some .int), 1, 0, 0)
theorem mS_X11_strideOf : zm_S M_X11_strideOf := ⟨⟨zt_t 1425 (by decide +kernel) rfl, zt_t 12 (by decide +kernel) rfl, by decide +kernel⟩, zt_t 1424 (by decide +kernel) rfl⟩
def M_X11_placeIn : zMt := (yX11_placeIn, cX11_placeIn, 2, (some .int), 2, 0, 0)
theorem mS_X11_placeIn : zm_S M_X11_placeIn := ⟨⟨zt_t 1428 (by decide +kernel) rfl, zt_t 12 (by decide +kernel) rfl, by decide +kernel⟩, zt_t 1427 (by decide +kernel) rfl⟩
def M_X11_longOf : zMt := (yX11_longOf, cX11_longOf, 1, (some .int), 1, 0, 0)
theorem mS_X11_longOf : zm_S M_X11_longOf := ⟨⟨zt_t 1432 (by decide +kernel) rfl, zt_t 12 (by decide +kernel) rfl, by decide +kernel⟩, zt_t 1431 (by decide +kernel) rfl⟩
def M_X11_around : zMt := (yX11_around, cX11_around, 5, (some .long), 3, 1, 21)
theorem mS_X11_around : zm_S M_X11_around := ⟨⟨zt_t 1422 (by decide +kernel) rfl, zt_t 12 (by decide +kernel) rfl, by decide +kernel⟩, zt_t 1421 (by decide +kernel) rfl⟩
def M_X11_blurs : zMt := (yX11_blurs, cX11_blurs, 4, none, 2, 2, 45)
theorem mV_X11_blurs : zm_V M_X11_blurs := ⟨⟨zt_t 1419 (by decide +kernel) rfl, zt_t 12 (by decide +kernel) rfl, by decide +kernel⟩, zt_t 1418 (by decide +kernel) rfl, zt_p (q := (yX11_blurs, 47)) 61 (by decide +kernel) rfl⟩
def M_X11_reads : zMt := (yX11_reads, cX11_reads, 6, none, 4, 2, 46)
theorem mV_X11_reads : zm_V M_X11_reads := ⟨⟨zt_t 1444 (by decide +kernel) rfl, zt_t 12 (by decide +kernel) rfl, by decide +kernel⟩, zt_t 1443 (by decide +kernel) rfl, zt_p (q := (yX11_reads, 47)) 63 (by decide +kernel) rfl⟩
def M_X11_nearest : zMt := (yX11_nearest, cX11_nearest, 4, (some .int), 2, 0, 0)
theorem mS_X11_nearest : zm_S M_X11_nearest := ⟨⟨zt_t 1454 (by decide +kernel) rfl, zt_t 12 (by decide +kernel) rfl, by decide +kernel⟩, zt_t 1453 (by decide +kernel) rfl⟩
def M_X11_weighed : zMt := (yX11_weighed, cX11_weighed, 3, (some .int), 0, 0, 0)
theorem mV_X11_weighed : zm_V M_X11_weighed := ⟨⟨zt_t 1395 (by decide +kernel) rfl, zt_t 12 (by decide +kernel) rfl, by decide +kernel⟩, zt_t 1394 (by decide +kernel) rfl, zt_p (q := (yX11_weighed, 47)) 59 (by decide +kernel) rfl⟩
def M_X11_areSteps : zMt := (yX11_areSteps, cX11_areSteps, 2, (some .boolean), 2, 1, 22)
theorem mS_X11_areSteps : zm_S M_X11_areSteps := ⟨⟨zt_t 1368 (by decide +kernel) rfl, zt_t 12 (by decide +kernel) rfl, by decide +kernel⟩, zt_t 1367 (by decide +kernel) rfl⟩
def M_X11_grid : zMt := (yX11_grid, cX11_grid, 6, (some .int), 4, 3, 74)
theorem mV_X11_grid : zm_V M_X11_grid := ⟨⟨zt_t 1365 (by decide +kernel) rfl, zt_t 12 (by decide +kernel) rfl, by decide +kernel⟩, zt_t 1363 (by decide +kernel) rfl, zt_t 1364 (by decide +kernel) rfl⟩
def M_X11_gridded : zMt := (yX11_gridded, cX11_gridded, 2, (some .int), 1, 1, 22)
theorem mV_X11_gridded : zm_V M_X11_gridded := ⟨⟨zt_t 1399 (by decide +kernel) rfl, zt_t 12 (by decide +kernel) rfl, by decide +kernel⟩, zt_t 1397 (by decide +kernel) rfl, zt_t 1398 (by decide +kernel) rfl⟩
def M_X11_node : zMt := (yX11_node, cX11_node, 5, (some .long), 4, 1, 22)
theorem mV_X11_node : zm_V M_X11_node := ⟨⟨zt_t 1403 (by decide +kernel) rfl, zt_t 12 (by decide +kernel) rfl, by decide +kernel⟩, zt_t 1401 (by decide +kernel) rfl, zt_t 1402 (by decide +kernel) rfl⟩
def M_X11_total : zMt := (yX11_total, cX11_total, 5, (some .long), 1, 1, 22)
theorem mV_X11_total : zm_V M_X11_total := ⟨⟨zt_t 1411 (by decide +kernel) rfl, zt_t 12 (by decide +kernel) rfl, by decide +kernel⟩, zt_t 1409 (by decide +kernel) rfl, zt_t 1410 (by decide +kernel) rfl⟩
def M_X11_blur : zMt := (yX11_blur, cX11_blur, 2, (some .int), 1, 3, 68)
theorem mV_X11_blur : zm_V M_X11_blur := ⟨⟨zt_t 1415 (by decide +kernel) rfl, zt_t 12 (by decide +kernel) rfl, by decide +kernel⟩, zt_t 1413 (by decide +kernel) rfl, zt_t 1414 (by decide +kernel) rfl⟩
def M_X11_isGridDot : zMt := (yX11_isGridDot, cX11_isGridDot, 3, (some .boolean), 2, 1, 22)
theorem mV_X11_isGridDot : zm_V M_X11_isGridDot := ⟨⟨zt_t 1440 (by decide +kernel) rfl, zt_t 12 (by decide +kernel) rfl, by decide +kernel⟩, zt_t 1439 (by decide +kernel) rfl, zt_p (q := (yX11_isGridDot, 47)) 62 (by decide +kernel) rfl⟩
def M_X11_common : zMt := (yX11_common, cX11_common, 10, (some .long), 2, 0, 0)
theorem mS_X11_common : zm_S M_X11_common := ⟨⟨zt_t 1447 (by decide +kernel) rfl, zt_t 12 (by decide +kernel) rfl, by decide +kernel⟩, zt_t 1446 (by decide +kernel) rfl⟩
def M_X11_read : zMt := (yX11_read, cX11_read, 7, (some .long), 4, 3, 71)
theorem mV_X11_read : zm_V M_X11_read := ⟨⟨zt_t 1436 (by decide +kernel) rfl, zt_t 12 (by decide +kernel) rfl, by decide +kernel⟩, zt_t 1434 (by decide +kernel) rfl, zt_t 1435 (by decide +kernel) rfl⟩
def M_X11_readShade : zMt := (yX11_readShade, cX11_readShade, 3, (some .int), 2, 3, 71)
theorem mV_X11_readShade : zm_V M_X11_readShade := ⟨⟨zt_t 1451 (by decide +kernel) rfl, zt_t 12 (by decide +kernel) rfl, by decide +kernel⟩, zt_t 1449 (by decide +kernel) rfl, zt_t 1450 (by decide +kernel) rfl⟩
def M_X11_smooths : zMt := (yX11_smooths, cX11_smooths, 8, none, 5, 3, 74)
theorem mV_X11_smooths : zm_V M_X11_smooths := ⟨⟨zt_t 1466 (by decide +kernel) rfl, zt_t 12 (by decide +kernel) rfl, by decide +kernel⟩, zt_t 1465 (by decide +kernel) rfl, zt_p (q := (yX11_smooths, 47)) 65 (by decide +kernel) rfl⟩
def M_X11_refusesSmooth : zMt := (yX11_refusesSmooth, cX11_refusesSmooth, 6, (some .int), 5, 2, 43)
theorem mV_X11_refusesSmooth : zm_V M_X11_refusesSmooth := ⟨⟨zt_t 1462 (by decide +kernel) rfl, zt_t 12 (by decide +kernel) rfl, by decide +kernel⟩, zt_t 1461 (by decide +kernel) rfl, zt_p (q := (yX11_refusesSmooth, 47)) 64 (by decide +kernel) rfl⟩
def M_X11_smooth : zMt := (yX11_smooth, cX11_smooth, 9, (some .int), 6, 4, 101)
theorem mV_X11_smooth : zm_V M_X11_smooth := ⟨⟨zt_t 1458 (by decide +kernel) rfl, zt_t 12 (by decide +kernel) rfl, by decide +kernel⟩, zt_t 1456 (by decide +kernel) rfl, zt_t 1457 (by decide +kernel) rfl⟩
def M_X11_box : zMt := (yX11_box, cX11_box, 6, (some .int), 3, 4, 96)
theorem mV_X11_box : zm_V M_X11_box := ⟨⟨zt_t 1470 (by decide +kernel) rfl, zt_t 12 (by decide +kernel) rfl, by decide +kernel⟩, zt_t 1468 (by decide +kernel) rfl, zt_t 1469 (by decide +kernel) rfl⟩
def M_X11_meanOf : zMt := (yX11_meanOf, cX11_meanOf, 11, (some .int), 4, 3, 66)
theorem mV_X11_meanOf : zm_V M_X11_meanOf := ⟨⟨zt_t 1474 (by decide +kernel) rfl, zt_t 12 (by decide +kernel) rfl, by decide +kernel⟩, zt_t 1473 (by decide +kernel) rfl, zt_p (q := (yX11_meanOf, 47)) 66 (by decide +kernel) rfl⟩
def M_X11_sorts : zMt := (yX11_sorts, cX11_sorts, 3, none, 1, 0, 0)
theorem mV_X11_sorts : zm_V M_X11_sorts := ⟨⟨zt_t 1489 (by decide +kernel) rfl, zt_t 12 (by decide +kernel) rfl, by decide +kernel⟩, zt_t 1488 (by decide +kernel) rfl, zt_p (q := (yX11_sorts, 47)) 68 (by decide +kernel) rfl⟩
def M_X11_middleOf : zMt := (yX11_middleOf, cX11_middleOf, 7, (some .int), 4, 3, 66)
theorem mV_X11_middleOf : zm_V M_X11_middleOf := ⟨⟨zt_t 1485 (by decide +kernel) rfl, zt_t 12 (by decide +kernel) rfl, by decide +kernel⟩, zt_t 1484 (by decide +kernel) rfl, zt_p (q := (yX11_middleOf, 47)) 67 (by decide +kernel) rfl⟩
def M_X11_ends : zMt := (yX11_ends, cX11_ends, 4, (some .int), 2, 2, 47)
theorem mV_X11_ends : zm_V M_X11_ends := ⟨⟨zt_t 1493 (by decide +kernel) rfl, zt_t 12 (by decide +kernel) rfl, by decide +kernel⟩, zt_t 1492 (by decide +kernel) rfl, zt_p (q := (yX11_ends, 47)) 69 (by decide +kernel) rfl⟩
def M_X11_isTo : zMt := (yX11_isTo, cX11_isTo, 1, (some .boolean), 1, 1, 22)
theorem mS_X11_isTo : zm_S M_X11_isTo := ⟨⟨zt_t 1481 (by decide +kernel) rfl, zt_t 12 (by decide +kernel) rfl, by decide +kernel⟩, zt_t 1480 (by decide +kernel) rfl⟩
def M_X11_median : zMt := (yX11_median, cX11_median, 6, (some .int), 3, 4, 92)
theorem mV_X11_median : zm_V M_X11_median := ⟨⟨zt_t 1478 (by decide +kernel) rfl, zt_t 12 (by decide +kernel) rfl, by decide +kernel⟩, zt_t 1476 (by decide +kernel) rfl, zt_t 1477 (by decide +kernel) rfl⟩
def M_X11_mix : zMt := (yX11_mix, cX11_mix, 7, (some .boolean), 4, 2, 43)
theorem mV_X11_mix : zm_V M_X11_mix := ⟨⟨zt_t 1497 (by decide +kernel) rfl, zt_t 12 (by decide +kernel) rfl, by decide +kernel⟩, zt_t 1495 (by decide +kernel) rfl, zt_t 1496 (by decide +kernel) rfl⟩
def M_X11_above : zMt := (yX11_above, cX11_above, 8, (some .int), 3, 2, 43)
theorem mV_X11_above : zm_V M_X11_above := ⟨⟨zt_t 1502 (by decide +kernel) rfl, zt_t 12 (by decide +kernel) rfl, by decide +kernel⟩, zt_t 1500 (by decide +kernel) rfl, zt_t 1501 (by decide +kernel) rfl⟩
def M_X11_levels : zMt := (yX11_levels, cX11_levels, 6, (some .int), 3, 3, 70)
theorem mV_X11_levels : zm_V M_X11_levels := ⟨⟨zt_t 1506 (by decide +kernel) rfl, zt_t 12 (by decide +kernel) rfl, by decide +kernel⟩, zt_t 1504 (by decide +kernel) rfl, zt_t 1505 (by decide +kernel) rfl⟩
def M_X11_endOf : zMt := (yX11_endOf, cX11_endOf, 6, (some .int), 2, 1, 23)
theorem mV_X11_endOf : zm_V M_X11_endOf := ⟨⟨zt_t 1514 (by decide +kernel) rfl, zt_t 12 (by decide +kernel) rfl, by decide +kernel⟩, zt_t 1513 (by decide +kernel) rfl, zt_p (q := (yX11_endOf, 47)) 70 (by decide +kernel) rfl⟩
def M_X11_stretch : zMt := (yX11_stretch, cX11_stretch, 7, (some .int), 2, 3, 70)
theorem mV_X11_stretch : zm_V M_X11_stretch := ⟨⟨zt_t 1510 (by decide +kernel) rfl, zt_t 12 (by decide +kernel) rfl, by decide +kernel⟩, zt_t 1508 (by decide +kernel) rfl, zt_t 1509 (by decide +kernel) rfl⟩
def M_X11_larger : zMt := (yX11_larger, cX11_larger, 6, (some .boolean), 3, 2, 43)
theorem mV_X11_larger : zm_V M_X11_larger := ⟨⟨zt_t 1518 (by decide +kernel) rfl, zt_t 12 (by decide +kernel) rfl, by decide +kernel⟩, zt_t 1516 (by decide +kernel) rfl, zt_t 1517 (by decide +kernel) rfl⟩
def M_X11_sumOf : zMt := (yX11_sumOf, cX11_sumOf, 8, (some .int), 4, 1, 23)
theorem mV_X11_sumOf : zm_V M_X11_sumOf := ⟨⟨zt_t 1526 (by decide +kernel) rfl, zt_t 12 (by decide +kernel) rfl, by decide +kernel⟩, zt_t 1525 (by decide +kernel) rfl, zt_p (q := (yX11_sumOf, 47)) 71 (by decide +kernel) rfl⟩
def M_X11_smaller : zMt := (yX11_smaller, cX11_smaller, 6, (some .boolean), 3, 2, 50)
theorem mV_X11_smaller : zm_V M_X11_smaller := ⟨⟨zt_t 1522 (by decide +kernel) rfl, zt_t 12 (by decide +kernel) rfl, by decide +kernel⟩, zt_t 1520 (by decide +kernel) rfl, zt_t 1521 (by decide +kernel) rfl⟩
def M_X11_ranked : zMt := (yX11_ranked, cX11_ranked, 5, (some .int), 2, 2, 43)
theorem mV_X11_ranked : zm_V M_X11_ranked := ⟨⟨zt_t 1530 (by decide +kernel) rfl, zt_t 12 (by decide +kernel) rfl, by decide +kernel⟩, zt_t 1528 (by decide +kernel) rfl, zt_t 1529 (by decide +kernel) rfl⟩
def M_X11_rests : zMt := (yX11_rests, cX11_rests, 8, (some .int), 4, 4, 101)
theorem mV_X11_rests : zm_V M_X11_rests := ⟨⟨zt_t 1534 (by decide +kernel) rfl, zt_t 12 (by decide +kernel) rfl, by decide +kernel⟩, zt_t 1532 (by decide +kernel) rfl, zt_t 1533 (by decide +kernel) rfl⟩
def M_X11_isNear : zMt := (yX11_isNear, cX11_isNear, 6, (some .boolean), 4, 1, 23)
theorem mV_X11_isNear : zm_V M_X11_isNear := ⟨⟨zt_t 1550 (by decide +kernel) rfl, zt_t 12 (by decide +kernel) rfl, by decide +kernel⟩, zt_t 1549 (by decide +kernel) rfl, zt_p (q := (yX11_isNear, 47)) 74 (by decide +kernel) rfl⟩
def M_X11_lays : zMt := (yX11_lays, cX11_lays, 6, (some .int), 2, 3, 78)
theorem mV_X11_lays : zm_V M_X11_lays := ⟨⟨zt_t 1542 (by decide +kernel) rfl, zt_t 12 (by decide +kernel) rfl, by decide +kernel⟩, zt_t 1541 (by decide +kernel) rfl, zt_p (q := (yX11_lays, 47)) 72 (by decide +kernel) rfl⟩
def M_X11_fills : zMt := (yX11_fills, cX11_fills, 11, none, 4, 2, 48)
theorem mV_X11_fills : zm_V M_X11_fills := ⟨⟨zt_t 1546 (by decide +kernel) rfl, zt_t 12 (by decide +kernel) rfl, by decide +kernel⟩, zt_t 1545 (by decide +kernel) rfl, zt_p (q := (yX11_fills, 47)) 73 (by decide +kernel) rfl⟩
def M_X11_regions : zMt := (yX11_regions, cX11_regions, 3, (some .int), 2, 4, 103)
theorem mV_X11_regions : zm_V M_X11_regions := ⟨⟨zt_t 1538 (by decide +kernel) rfl, zt_t 12 (by decide +kernel) rfl, by decide +kernel⟩, zt_t 1536 (by decide +kernel) rfl, zt_t 1537 (by decide +kernel) rfl⟩
def M_X11_region : zMt := (yX11_region, cX11_region, 11, (some .int), 4, 4, 103)
theorem mV_X11_region : zm_V M_X11_region := ⟨⟨zt_t 1554 (by decide +kernel) rfl, zt_t 12 (by decide +kernel) rfl, by decide +kernel⟩, zt_t 1552 (by decide +kernel) rfl, zt_t 1553 (by decide +kernel) rfl⟩
def M_X11_regionAt : zMt := (yX11_regionAt, cX11_regionAt, 6, (some .int), 4, 4, 103)
theorem mV_X11_regionAt : zm_V M_X11_regionAt := ⟨⟨zt_t 1558 (by decide +kernel) rfl, zt_t 12 (by decide +kernel) rfl, by decide +kernel⟩, zt_t 1556 (by decide +kernel) rfl, zt_t 1557 (by decide +kernel) rfl⟩
def M_X11_steep : zMt := (yX11_steep, cX11_steep, 8, (some .int), 2, 2, 47)
theorem mV_X11_steep : zm_V M_X11_steep := ⟨⟨zt_t 1562 (by decide +kernel) rfl, zt_t 12 (by decide +kernel) rfl, by decide +kernel⟩, zt_t 1560 (by decide +kernel) rfl, zt_t 1561 (by decide +kernel) rfl⟩
def M_X11_line : zMt := (yX11_line, cX11_line, 6, (some .int), 3, 2, 43)
theorem mV_X11_line : zm_V M_X11_line := ⟨⟨zt_t 1574 (by decide +kernel) rfl, zt_t 12 (by decide +kernel) rfl, by decide +kernel⟩, zt_t 1572 (by decide +kernel) rfl, zt_t 1573 (by decide +kernel) rfl⟩
def M_X11_nth : zMt := (yX11_nth, cX11_nth, 5, (some .int), 2, 1, 22)
theorem mV_X11_nth : zm_V M_X11_nth := ⟨⟨zt_t 1578 (by decide +kernel) rfl, zt_t 12 (by decide +kernel) rfl, by decide +kernel⟩, zt_t 1576 (by decide +kernel) rfl, zt_t 1577 (by decide +kernel) rfl⟩
def M_X11_write : zMt := (yX11_write, cX11_write, 4, (some .int), 1, 2, 43)
theorem mV_X11_write : zm_V M_X11_write := ⟨⟨zt_t 1582 (by decide +kernel) rfl, zt_t 12 (by decide +kernel) rfl, by decide +kernel⟩, zt_t 1580 (by decide +kernel) rfl, zt_t 1581 (by decide +kernel) rfl⟩
def M_X11_octet : zMt := (yX11_octet, cX11_octet, 2, (some .int), 1, 1, 22)
theorem mV_X11_octet : zm_V M_X11_octet := ⟨⟨zt_t 1587 (by decide +kernel) rfl, zt_t 12 (by decide +kernel) rfl, by decide +kernel⟩, zt_t 1585 (by decide +kernel) rfl, zt_t 1586 (by decide +kernel) rfl⟩
def M_X11_hasNeighbour : zMt := (yX11_hasNeighbour, cX11_hasNeighbour, 5, (some .boolean), 4, 1, 21)
theorem mV_X11_hasNeighbour : zm_V M_X11_hasNeighbour := ⟨⟨zt_t 1566 (by decide +kernel) rfl, zt_t 12 (by decide +kernel) rfl, by decide +kernel⟩, zt_t 1565 (by decide +kernel) rfl, zt_p (q := (yX11_hasNeighbour, 47)) 75 (by decide +kernel) rfl⟩
def M_X11_other : zMt := (yX11_other, cX11_other, 5, (some .int), 4, 1, 23)
theorem mV_X11_other : zm_V M_X11_other := ⟨⟨zt_t 1570 (by decide +kernel) rfl, zt_t 12 (by decide +kernel) rfl, by decide +kernel⟩, zt_t 1569 (by decide +kernel) rfl, zt_p (q := (yX11_other, 47)) 76 (by decide +kernel) rfl⟩
def M_X11_isEdge : zMt := (yX11_isEdge, cX11_isEdge, 7, (some .boolean), 5, 2, 47)
theorem mV_X11_isEdge : zm_V M_X11_isEdge := ⟨⟨zt_t 1599 (by decide +kernel) rfl, zt_t 12 (by decide +kernel) rfl, by decide +kernel⟩, zt_t 1598 (by decide +kernel) rfl, zt_p (q := (yX11_isEdge, 47)) 78 (by decide +kernel) rfl⟩
def M_X11_edgesOf : zMt := (yX11_edgesOf, cX11_edgesOf, 8, (some .int), 3, 3, 73)
theorem mV_X11_edgesOf : zm_V M_X11_edgesOf := ⟨⟨zt_t 1595 (by decide +kernel) rfl, zt_t 12 (by decide +kernel) rfl, by decide +kernel⟩, zt_t 1594 (by decide +kernel) rfl, zt_p (q := (yX11_edgesOf, 47)) 77 (by decide +kernel) rfl⟩
def M_X11_edges : zMt := (yX11_edges, cX11_edges, 3, (some .int), 2, 4, 100)
theorem mV_X11_edges : zm_V M_X11_edges := ⟨⟨zt_t 1591 (by decide +kernel) rfl, zt_t 12 (by decide +kernel) rfl, by decide +kernel⟩, zt_t 1589 (by decide +kernel) rfl, zt_t 1590 (by decide +kernel) rfl⟩
def M_X11_kept : zMt := (yX11_kept, cX11_kept, 8, (some .int), 6, 4, 101)
theorem mV_X11_kept : zm_V M_X11_kept := ⟨⟨zt_t 1603 (by decide +kernel) rfl, zt_t 12 (by decide +kernel) rfl, by decide +kernel⟩, zt_t 1601 (by decide +kernel) rfl, zt_t 1602 (by decide +kernel) rfl⟩
def M_X11_flat : zMt := (yX11_flat, cX11_flat, 6, (some .int), 4, 4, 101)
theorem mV_X11_flat : zm_V M_X11_flat := ⟨⟨zt_t 1607 (by decide +kernel) rfl, zt_t 12 (by decide +kernel) rfl, by decide +kernel⟩, zt_t 1605 (by decide +kernel) rfl, zt_t 1606 (by decide +kernel) rfl⟩
def M_X11_apart : zMt := (yX11_apart, cX11_apart, 10, (some .int), 3, 2, 43)
theorem mV_X11_apart : zm_V M_X11_apart := ⟨⟨zt_t 1611 (by decide +kernel) rfl, zt_t 12 (by decide +kernel) rfl, by decide +kernel⟩, zt_t 1609 (by decide +kernel) rfl, zt_t 1610 (by decide +kernel) rfl⟩
def M_X11_laysPairs : zMt := (yX11_laysPairs, cX11_laysPairs, 5, none, 1, 2, 47)
theorem mV_X11_laysPairs : zm_V M_X11_laysPairs := ⟨⟨zt_t 1619 (by decide +kernel) rfl, zt_t 12 (by decide +kernel) rfl, by decide +kernel⟩, zt_t 1618 (by decide +kernel) rfl, zt_p (q := (yX11_laysPairs, 47)) 79 (by decide +kernel) rfl⟩
def M_X11_comes : zMt := (yX11_comes, cX11_comes, 5, none, 2, 0, 0)
theorem mV_X11_comes : zm_V M_X11_comes := ⟨⟨zt_t 1623 (by decide +kernel) rfl, zt_t 12 (by decide +kernel) rfl, by decide +kernel⟩, zt_t 1622 (by decide +kernel) rfl, zt_p (q := (yX11_comes, 47)) 80 (by decide +kernel) rfl⟩
def M_X11_pairs : zMt := (yX11_pairs, cX11_pairs, 4, (some .int), 1, 3, 71)
theorem mV_X11_pairs : zm_V M_X11_pairs := ⟨⟨zt_t 1615 (by decide +kernel) rfl, zt_t 12 (by decide +kernel) rfl, by decide +kernel⟩, zt_t 1613 (by decide +kernel) rfl, zt_t 1614 (by decide +kernel) rfl⟩
def M_X11_pair : zMt := (yX11_pair, cX11_pair, 7, (some .int), 2, 3, 71)
theorem mV_X11_pair : zm_V M_X11_pair := ⟨⟨zt_t 1627 (by decide +kernel) rfl, zt_t 12 (by decide +kernel) rfl, by decide +kernel⟩, zt_t 1625 (by decide +kernel) rfl, zt_t 1626 (by decide +kernel) rfl⟩
def M_X11_letter : zMt := (yX11_letter, cX11_letter, 3, (some .int), 2, 1, 22)
theorem mV_X11_letter : zm_V M_X11_letter := ⟨⟨zt_t 1631 (by decide +kernel) rfl, zt_t 12 (by decide +kernel) rfl, by decide +kernel⟩, zt_t 1629 (by decide +kernel) rfl, zt_t 1630 (by decide +kernel) rfl⟩
def M_X11_bytes : zMt := (yX11_bytes, cX11_bytes, 1, (some .int), 0, 0, 0)
theorem mV_X11_bytes : zm_V M_X11_bytes := ⟨⟨zt_t 1635 (by decide +kernel) rfl, zt_t 12 (by decide +kernel) rfl, by decide +kernel⟩, zt_t 1633 (by decide +kernel) rfl, zt_t 1634 (by decide +kernel) rfl⟩
def M_X11_trouble : zMt := (yX11_trouble, cX11_trouble, 1, (some .int), 0, 0, 0)
theorem mV_X11_trouble : zm_V M_X11_trouble := ⟨⟨zt_t 1639 (by decide +kernel) rfl, zt_t 12 (by decide +kernel) rfl, by decide +kernel⟩, zt_t 1637 (by decide +kernel) rfl, zt_t 1638 (by decide +kernel) rfl⟩
