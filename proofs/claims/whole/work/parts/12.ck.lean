/-! links, by program (gen/refw.py) -/
set_option maxRecDepth 100000 in
theorem cd_X0_init : inTbl mX0_init := List.mem_of_getElem? (i := 403) rfl
set_option maxRecDepth 100000 in
theorem cd_X0_kind : inTbl mX0_kind := List.mem_of_getElem? (i := 540) rfl
set_option maxRecDepth 100000 in
theorem cd_X0_origin : inTbl mX0_origin := List.mem_of_getElem? (i := 551) rfl
set_option maxRecDepth 100000 in
theorem cd_X0_acts : inTbl mX0_acts := List.mem_of_getElem? (i := 560) rfl
set_option maxRecDepth 100000 in
theorem cd_X0_telling : inTbl mX0_telling := List.mem_of_getElem? (i := 769) rfl
set_option maxRecDepth 100000 in
theorem cd_X1_init : inTbl mX1_init := List.mem_of_getElem? (i := 337) rfl
set_option maxRecDepth 100000 in
theorem cd_X2_init : inTbl mX2_init := List.mem_of_getElem? (i := 697) rfl
set_option maxRecDepth 100000 in
theorem cd_X3_init : inTbl mX3_init := List.mem_of_getElem? (i := 141) rfl
set_option maxRecDepth 100000 in
theorem cd_X3_fill : inTbl mX3_fill := List.mem_of_getElem? (i := 295) rfl
set_option maxRecDepth 100000 in
theorem cd_X3_become : inTbl mX3_become := List.mem_of_getElem? (i := 487) rfl
set_option maxRecDepth 100000 in
theorem cd_X3_replace : inTbl mX3_replace := List.mem_of_getElem? (i := 491) rfl
set_option maxRecDepth 100000 in
theorem cd_X3_has : inTbl mX3_has := List.mem_of_getElem? (i := 322) rfl
set_option maxRecDepth 100000 in
theorem cd_X3_origin : inTbl mX3_origin := List.mem_of_getElem? (i := 594) rfl
set_option maxRecDepth 100000 in
theorem cd_X3_sum : inTbl mX3_sum := List.mem_of_getElem? (i := 308) rfl
set_option maxRecDepth 100000 in
theorem cd_X3_mean : inTbl mX3_mean := List.mem_of_getElem? (i := 667) rfl
set_option maxRecDepth 100000 in
theorem cd_X3_least : inTbl mX3_least := List.mem_of_getElem? (i := 672) rfl
set_option maxRecDepth 100000 in
theorem cd_X3_greatest : inTbl mX3_greatest := List.mem_of_getElem? (i := 677) rfl
set_option maxRecDepth 100000 in
theorem cd_X3_imprint : inTbl mX3_imprint := List.mem_of_getElem? (i := 633) rfl
set_option maxRecDepth 100000 in
theorem cd_X3_agreement : inTbl mX3_agreement := List.mem_of_getElem? (i := 646) rfl
set_option maxRecDepth 100000 in
theorem cd_X3_tellsBit : inTbl mX3_tellsBit := List.mem_of_getElem? (i := 638) rfl
set_option maxRecDepth 100000 in
theorem cd_X4_init : inTbl mX4_init := List.mem_of_getElem? (i := 108) rfl
set_option maxRecDepth 100000 in
theorem cd_X4_keptActs : inTbl mX4_keptActs := List.mem_of_getElem? (i := 454) rfl
set_option maxRecDepth 100000 in
theorem cd_X4_read : inTbl mX4_read := List.mem_of_getElem? (i := 426) rfl
set_option maxRecDepth 100000 in
theorem cd_X4_code : inTbl mX4_code := List.mem_of_getElem? (i := 433) rfl
set_option maxRecDepth 100000 in
theorem cd_X4_isKind : inTbl mX4_isKind := List.mem_of_getElem? (i := 436) rfl
set_option maxRecDepth 100000 in
theorem cd_X4_readNumber : inTbl mX4_readNumber := List.mem_of_getElem? (i := 440) rfl
set_option maxRecDepth 100000 in
theorem cd_X4_readShift : inTbl mX4_readShift := List.mem_of_getElem? (i := 448) rfl
set_option maxRecDepth 100000 in
theorem cd_X4_readDigits : inTbl mX4_readDigits := List.mem_of_getElem? (i := 444) rfl
set_option maxRecDepth 100000 in
theorem cd_X5_init : inTbl mX5_init := List.mem_of_getElem? (i := 193) rfl
set_option maxRecDepth 100000 in
theorem cd_X5_renew : inTbl mX5_renew := List.mem_of_getElem? (i := 735) rfl
set_option maxRecDepth 100000 in
theorem cd_X5_faultOf : inTbl mX5_faultOf := List.mem_of_getElem? (i := 269) rfl
set_option maxRecDepth 100000 in
theorem cd_X5_lacks : inTbl mX5_lacks := List.mem_of_getElem? (i := 273) rfl
set_option maxRecDepth 100000 in
theorem cd_X5_holdsSquares : inTbl mX5_holdsSquares := List.mem_of_getElem? (i := 281) rfl
set_option maxRecDepth 100000 in
theorem cd_X5_at : inTbl mX5_at := List.mem_of_getElem? (i := 285) rfl
set_option maxRecDepth 100000 in
theorem cd_X5_write : inTbl mX5_write := List.mem_of_getElem? (i := 748) rfl
set_option maxRecDepth 100000 in
theorem cd_X6_init : inTbl mX6_init := List.mem_of_getElem? (i := 398) rfl
set_option maxRecDepth 100000 in
theorem cd_X6_kind : inTbl mX6_kind := List.mem_of_getElem? (i := 543) rfl
set_option maxRecDepth 100000 in
theorem cd_X6_telling : inTbl mX6_telling := List.mem_of_getElem? (i := 777) rfl
set_option maxRecDepth 100000 in
theorem cd_X6_showing : inTbl mX6_showing := List.mem_of_getElem? (i := 800) rfl
set_option maxRecDepth 100000 in
theorem cd_X7_init : inTbl mX7_init := List.mem_of_getElem? (i := 375) rfl
set_option maxRecDepth 100000 in
theorem cd_X7_kind : inTbl mX7_kind := List.mem_of_getElem? (i := 544) rfl
set_option maxRecDepth 100000 in
theorem cd_X7_origin : inTbl mX7_origin := List.mem_of_getElem? (i := 553) rfl
set_option maxRecDepth 100000 in
theorem cd_X7_acts : inTbl mX7_acts := List.mem_of_getElem? (i := 562) rfl
set_option maxRecDepth 100000 in
theorem cd_X7_telling : inTbl mX7_telling := List.mem_of_getElem? (i := 787) rfl
set_option maxRecDepth 100000 in
theorem cd_X7_takenTelling : inTbl mX7_takenTelling := List.mem_of_getElem? (i := 785) rfl
set_option maxRecDepth 100000 in
theorem cd_X7_showing : inTbl mX7_showing := List.mem_of_getElem? (i := 801) rfl
set_option maxRecDepth 100000 in
theorem cd_X8_init : inTbl mX8_init := List.mem_of_getElem? (i := 183) rfl
set_option maxRecDepth 100000 in
theorem cd_X8_leave : inTbl mX8_leave := List.mem_of_getElem? (i := 773) rfl
set_option maxRecDepth 100000 in
theorem cd_X9_init : inTbl mX9_init := List.mem_of_getElem? (i := 97) rfl
set_option maxRecDepth 100000 in
theorem cd_X9_above : inTbl mX9_above := List.mem_of_getElem? (i := 318) rfl
set_option maxRecDepth 100000 in
theorem cd_X9_rootOf : inTbl mX9_rootOf := List.mem_of_getElem? (i := 315) rfl
set_option maxRecDepth 100000 in
theorem cd_X9_beside : inTbl mX9_beside := List.mem_of_getElem? (i := 616) rfl
set_option maxRecDepth 100000 in
theorem cd_X10_init : inTbl mX10_init := List.mem_of_getElem? (i := 135) rfl
set_option maxRecDepth 100000 in
theorem cd_X10_perform : inTbl mX10_perform := List.mem_of_getElem? (i := 483) rfl
set_option maxRecDepth 100000 in
theorem cd_X10_performOne : inTbl mX10_performOne := List.mem_of_getElem? (i := 496) rfl
set_option maxRecDepth 100000 in
theorem cd_X10_holds : inTbl mX10_holds := List.mem_of_getElem? (i := 500) rfl
set_option maxRecDepth 100000 in
theorem cd_X10_cutToSpare : inTbl mX10_cutToSpare := List.mem_of_getElem? (i := 504) rfl
set_option maxRecDepth 100000 in
theorem cd_X10_blur : inTbl mX10_blur := List.mem_of_getElem? (i := 514) rfl
set_option maxRecDepth 100000 in
theorem cd_X10_turnToSpare : inTbl mX10_turnToSpare := List.mem_of_getElem? (i := 510) rfl
set_option maxRecDepth 100000 in
theorem cd_X10_shift : inTbl mX10_shift := List.mem_of_getElem? (i := 518) rfl
set_option maxRecDepth 100000 in
theorem cd_X10_saveWorse : inTbl mX10_saveWorse := List.mem_of_getElem? (i := 524) rfl
set_option maxRecDepth 100000 in
theorem cd_X11_init : inTbl mX11_init := List.mem_of_getElem? (i := 81) rfl
set_option maxRecDepth 100000 in
theorem cd_X11_picture : inTbl mX11_picture := List.mem_of_getElem? (i := 255) rfl
set_option maxRecDepth 100000 in
theorem cd_X11_ofPicture : inTbl mX11_ofPicture := List.mem_of_getElem? (i := 300) rfl
set_option maxRecDepth 100000 in
theorem cd_X11_alter : inTbl mX11_alter := List.mem_of_getElem? (i := 329) rfl
set_option maxRecDepth 100000 in
theorem cd_X11_lens : inTbl mX11_lens := List.mem_of_getElem? (i := 333) rfl
set_option maxRecDepth 100000 in
theorem cd_X11_steal : inTbl mX11_steal := List.mem_of_getElem? (i := 355) rfl
set_option maxRecDepth 100000 in
theorem cd_X11_take : inTbl mX11_take := List.mem_of_getElem? (i := 363) rfl
set_option maxRecDepth 100000 in
theorem cd_X11_hush : inTbl mX11_hush := List.mem_of_getElem? (i := 393) rfl
set_option maxRecDepth 100000 in
theorem cd_X11_change : inTbl mX11_change := List.mem_of_getElem? (i := 418) rfl
set_option maxRecDepth 100000 in
theorem cd_X11_act : inTbl mX11_act := List.mem_of_getElem? (i := 479) rfl
set_option maxRecDepth 100000 in
theorem cd_X11_tear : inTbl mX11_tear := List.mem_of_getElem? (i := 529) rfl
set_option maxRecDepth 100000 in
theorem cd_X11_line : inTbl mX11_line := List.mem_of_getElem? (i := 533) rfl
set_option maxRecDepth 100000 in
theorem cd_X11_speaks : inTbl mX11_speaks := List.mem_of_getElem? (i := 567) rfl
set_option maxRecDepth 100000 in
theorem cd_X11_play : inTbl mX11_play := List.mem_of_getElem? (i := 582) rfl
set_option maxRecDepth 100000 in
theorem cd_X11_within : inTbl mX11_within := List.mem_of_getElem? (i := 586) rfl
set_option maxRecDepth 100000 in
theorem cd_X11_way : inTbl mX11_way := List.mem_of_getElem? (i := 590) rfl
set_option maxRecDepth 100000 in
theorem cd_X11_doubt : inTbl mX11_doubt := List.mem_of_getElem? (i := 599) rfl
set_option maxRecDepth 100000 in
theorem cd_X11_whole : inTbl mX11_whole := List.mem_of_getElem? (i := 607) rfl
set_option maxRecDepth 100000 in
theorem cd_X11_proof : inTbl mX11_proof := List.mem_of_getElem? (i := 611) rfl
set_option maxRecDepth 100000 in
theorem cd_X11_proves : inTbl mX11_proves := List.mem_of_getElem? (i := 620) rfl
set_option maxRecDepth 100000 in
theorem cd_X11_hide : inTbl mX11_hide := List.mem_of_getElem? (i := 626) rfl
set_option maxRecDepth 100000 in
theorem cd_X11_found : inTbl mX11_found := List.mem_of_getElem? (i := 642) rfl
set_option maxRecDepth 100000 in
theorem cd_X11_falsely : inTbl mX11_falsely := List.mem_of_getElem? (i := 650) rfl
set_option maxRecDepth 100000 in
theorem cd_X11_like : inTbl mX11_like := List.mem_of_getElem? (i := 660) rfl
set_option maxRecDepth 100000 in
theorem cd_X11_nearest : inTbl mX11_nearest := List.mem_of_getElem? (i := 681) rfl
set_option maxRecDepth 100000 in
theorem cd_X11_coarse : inTbl mX11_coarse := List.mem_of_getElem? (i := 689) rfl
set_option maxRecDepth 100000 in
theorem cd_X11_look : inTbl mX11_look := List.mem_of_getElem? (i := 693) rfl
set_option maxRecDepth 100000 in
theorem cd_X11_best : inTbl mX11_best := List.mem_of_getElem? (i := 715) rfl
set_option maxRecDepth 100000 in
theorem cd_X11_doubtful : inTbl mX11_doubtful := List.mem_of_getElem? (i := 727) rfl
set_option maxRecDepth 100000 in
theorem cd_X11_sheet : inTbl mX11_sheet := List.mem_of_getElem? (i := 731) rfl
set_option maxRecDepth 100000 in
theorem cd_X11_lose : inTbl mX11_lose := List.mem_of_getElem? (i := 740) rfl
set_option maxRecDepth 100000 in
theorem cd_X11_put : inTbl mX11_put := List.mem_of_getElem? (i := 744) rfl
set_option maxRecDepth 100000 in
theorem cd_X11_cell : inTbl mX11_cell := List.mem_of_getElem? (i := 752) rfl
set_option maxRecDepth 100000 in
theorem cd_X11_copy : inTbl mX11_copy := List.mem_of_getElem? (i := 756) rfl
set_option maxRecDepth 100000 in
theorem cd_X11_tell : inTbl mX11_tell := List.mem_of_getElem? (i := 762) rfl
set_option maxRecDepth 100000 in
theorem cd_X11_show : inTbl mX11_show := List.mem_of_getElem? (i := 792) rfl
set_option maxRecDepth 100000 in
theorem cd_X11_as : inTbl mX11_as := List.mem_of_getElem? (i := 805) rfl
set_option maxRecDepth 100000 in
theorem cd_X11_trace : inTbl mX11_trace := List.mem_of_getElem? (i := 809) rfl
set_option maxRecDepth 100000 in
theorem cd_X11_fault : inTbl mX11_fault := List.mem_of_getElem? (i := 813) rfl
set_option maxRecDepth 100000 in
theorem cd_X11_many : inTbl mX11_many := List.mem_of_getElem? (i := 817) rfl
set_option maxRecDepth 100000 in
theorem cd_X11_isIn : inTbl mX11_isIn := List.mem_of_getElem? (i := 262) rfl
set_option maxRecDepth 100000 in
theorem cd_X11_isLane : inTbl mX11_isLane := List.mem_of_getElem? (i := 265) rfl
set_option maxRecDepth 100000 in
theorem cd_X11_isHour : inTbl mX11_isHour := List.mem_of_getElem? (i := 366) rfl
set_option maxRecDepth 100000 in
theorem cd_X11_isPlace : inTbl mX11_isPlace := List.mem_of_getElem? (i := 325) rfl
set_option maxRecDepth 100000 in
theorem cd_X11_isMark : inTbl mX11_isMark := List.mem_of_getElem? (i := 629) rfl
set_option maxRecDepth 100000 in
theorem cd_X11_pictureAt : inTbl mX11_pictureAt := List.mem_of_getElem? (i := 304) rfl
set_option maxRecDepth 100000 in
theorem cd_X11_lensAt : inTbl mX11_lensAt := List.mem_of_getElem? (i := 359) rfl
set_option maxRecDepth 100000 in
theorem cd_X11_sheetAt : inTbl mX11_sheetAt := List.mem_of_getElem? (i := 259) rfl
set_option maxRecDepth 100000 in
theorem cd_X11_failed : inTbl mX11_failed := List.mem_of_getElem? (i := 277) rfl
set_option maxRecDepth 100000 in
theorem cd_X11_addPicture : inTbl mX11_addPicture := List.mem_of_getElem? (i := 290) rfl
set_option maxRecDepth 100000 in
theorem cd_X11_readActs : inTbl mX11_readActs := List.mem_of_getElem? (i := 422) rfl
set_option maxRecDepth 100000 in
theorem cd_X11_sealOf : inTbl mX11_sealOf := List.mem_of_getElem? (i := 372) rfl
set_option maxRecDepth 100000 in
theorem cd_X11_voiceOf : inTbl mX11_voiceOf := List.mem_of_getElem? (i := 571) rfl
set_option maxRecDepth 100000 in
theorem cd_X11_firstFarPlace : inTbl mX11_firstFarPlace := List.mem_of_getElem? (i := 575) rfl
set_option maxRecDepth 100000 in
theorem cd_X11_firstDoubt : inTbl mX11_firstDoubt := List.mem_of_getElem? (i := 603) rfl
set_option maxRecDepth 100000 in
theorem cd_X11_waysOfAtLeast : inTbl mX11_waysOfAtLeast := List.mem_of_getElem? (i := 655) rfl
set_option maxRecDepth 100000 in
theorem cd_X11_likeness : inTbl mX11_likeness := List.mem_of_getElem? (i := 663) rfl
set_option maxRecDepth 100000 in
theorem cd_X11_countNearer : inTbl mX11_countNearer := List.mem_of_getElem? (i := 685) rfl
set_option maxRecDepth 100000 in
theorem cd_X11_hoursOf : inTbl mX11_hoursOf := List.mem_of_getElem? (i := 719) rfl
set_option maxRecDepth 100000 in
theorem cd_X11_worthOf : inTbl mX11_worthOf := List.mem_of_getElem? (i := 723) rfl
set_option maxRecDepth 100000 in
theorem cd_X11_countPapers : inTbl mX11_countPapers := List.mem_of_getElem? (i := 821) rfl
set_option maxRecDepth 100000 in
theorem cd_X12_init : inTbl mX12_init := List.mem_of_getElem? (i := 826) rfl
set_option maxRecDepth 100000 in
theorem cd_X12_in : inTbl mX12_in := List.mem_of_getElem? (i := 938) rfl
set_option maxRecDepth 100000 in
theorem cd_X12_lost : inTbl mX12_lost := List.mem_of_getElem? (i := 1184) rfl
set_option maxRecDepth 100000 in
theorem cd_X12_hasBit : inTbl mX12_hasBit := List.mem_of_getElem? (i := 1153) rfl
set_option maxRecDepth 100000 in
theorem cd_X12_sizeOf : inTbl mX12_sizeOf := List.mem_of_getElem? (i := 1112) rfl
set_option maxRecDepth 100000 in
theorem cd_X12_lesser : inTbl mX12_lesser := List.mem_of_getElem? (i := 1042) rfl
set_option maxRecDepth 100000 in
theorem cd_X12_greater : inTbl mX12_greater := List.mem_of_getElem? (i := 1045) rfl
set_option maxRecDepth 100000 in
theorem cd_X12_share : inTbl mX12_share := List.mem_of_getElem? (i := 1188) rfl
set_option maxRecDepth 100000 in
theorem cd_X12_refused : inTbl mX12_refused := List.mem_of_getElem? (i := 942) rfl
set_option maxRecDepth 100000 in
theorem cd_X12_failed : inTbl mX12_failed := List.mem_of_getElem? (i := 955) rfl
set_option maxRecDepth 100000 in
theorem cd_X12_failedLong : inTbl mX12_failedLong := List.mem_of_getElem? (i := 1249) rfl
set_option maxRecDepth 100000 in
theorem cd_X12_barred : inTbl mX12_barred := List.mem_of_getElem? (i := 951) rfl
set_option maxRecDepth 100000 in
theorem cd_X12_isLane : inTbl mX12_isLane := List.mem_of_getElem? (i := 946) rfl
set_option maxRecDepth 100000 in
theorem cd_X12_isHour : inTbl mX12_isHour := List.mem_of_getElem? (i := 1066) rfl
set_option maxRecDepth 100000 in
theorem cd_X12_noPicture : inTbl mX12_noPicture := List.mem_of_getElem? (i := 967) rfl
set_option maxRecDepth 100000 in
theorem cd_X12_isThere : inTbl mX12_isThere := List.mem_of_getElem? (i := 991) rfl
set_option maxRecDepth 100000 in
theorem cd_X12_picture : inTbl mX12_picture := List.mem_of_getElem? (i := 931) rfl
set_option maxRecDepth 100000 in
theorem cd_X12_manySquares : inTbl mX12_manySquares := List.mem_of_getElem? (i := 975) rfl
set_option maxRecDepth 100000 in
theorem cd_X12_placeOf : inTbl mX12_placeOf := List.mem_of_getElem? (i := 979) rfl
set_option maxRecDepth 100000 in
theorem cd_X12_sumOf : inTbl mX12_sumOf := List.mem_of_getElem? (i := 971) rfl
set_option maxRecDepth 100000 in
theorem cd_X12_layTree : inTbl mX12_layTree := List.mem_of_getElem? (i := 987) rfl
set_option maxRecDepth 100000 in
theorem cd_X12_above : inTbl mX12_above := List.mem_of_getElem? (i := 995) rfl
set_option maxRecDepth 100000 in
theorem cd_X12_rootOf : inTbl mX12_rootOf := List.mem_of_getElem? (i := 983) rfl
set_option maxRecDepth 100000 in
theorem cd_X12_ofPicture : inTbl mX12_ofPicture := List.mem_of_getElem? (i := 963) rfl
set_option maxRecDepth 100000 in
theorem cd_X12_alter : inTbl mX12_alter := List.mem_of_getElem? (i := 1001) rfl
set_option maxRecDepth 100000 in
theorem cd_X12_isDigit : inTbl mX12_isDigit := List.mem_of_getElem? (i := 1017) rfl
set_option maxRecDepth 100000 in
theorem cd_X12_readsNumbers : inTbl mX12_readsNumbers := List.mem_of_getElem? (i := 1013) rfl
set_option maxRecDepth 100000 in
theorem cd_X12_readActs : inTbl mX12_readActs := List.mem_of_getElem? (i := 1009) rfl
set_option maxRecDepth 100000 in
theorem cd_X12_takeInHand : inTbl mX12_takeInHand := List.mem_of_getElem? (i := 1024) rfl
set_option maxRecDepth 100000 in
theorem cd_X12_doPart : inTbl mX12_doPart := List.mem_of_getElem? (i := 1032) rfl
set_option maxRecDepth 100000 in
theorem cd_X12_turn : inTbl mX12_turn := List.mem_of_getElem? (i := 1036) rfl
set_option maxRecDepth 100000 in
theorem cd_X12_tinted : inTbl mX12_tinted := List.mem_of_getElem? (i := 1039) rfl
set_option maxRecDepth 100000 in
theorem cd_X12_doActs : inTbl mX12_doActs := List.mem_of_getElem? (i := 1028) rfl
set_option maxRecDepth 100000 in
theorem cd_X12_act : inTbl mX12_act := List.mem_of_getElem? (i := 1005) rfl
set_option maxRecDepth 100000 in
theorem cd_X12_noLens : inTbl mX12_noLens := List.mem_of_getElem? (i := 1058) rfl
set_option maxRecDepth 100000 in
theorem cd_X12_lens : inTbl mX12_lens := List.mem_of_getElem? (i := 1049) rfl
set_option maxRecDepth 100000 in
theorem cd_X12_steal : inTbl mX12_steal := List.mem_of_getElem? (i := 1054) rfl
set_option maxRecDepth 100000 in
theorem cd_X12_noLine : inTbl mX12_noLine := List.mem_of_getElem? (i := 1071) rfl
set_option maxRecDepth 100000 in
theorem cd_X12_sealOf : inTbl mX12_sealOf := List.mem_of_getElem? (i := 1079) rfl
set_option maxRecDepth 100000 in
theorem cd_X12_write : inTbl mX12_write := List.mem_of_getElem? (i := 1075) rfl
set_option maxRecDepth 100000 in
theorem cd_X12_take : inTbl mX12_take := List.mem_of_getElem? (i := 1063) rfl
set_option maxRecDepth 100000 in
theorem cd_X12_hush : inTbl mX12_hush := List.mem_of_getElem? (i := 1083) rfl
set_option maxRecDepth 100000 in
theorem cd_X12_change : inTbl mX12_change := List.mem_of_getElem? (i := 1087) rfl
set_option maxRecDepth 100000 in
theorem cd_X12_tear : inTbl mX12_tear := List.mem_of_getElem? (i := 1091) rfl
set_option maxRecDepth 100000 in
theorem cd_X12_line : inTbl mX12_line := List.mem_of_getElem? (i := 1095) rfl
set_option maxRecDepth 100000 in
theorem cd_X12_within : inTbl mX12_within := List.mem_of_getElem? (i := 1100) rfl
set_option maxRecDepth 100000 in
theorem cd_X12_played : inTbl mX12_played := List.mem_of_getElem? (i := 1109) rfl
set_option maxRecDepth 100000 in
theorem cd_X12_play : inTbl mX12_play := List.mem_of_getElem? (i := 1105) rfl
set_option maxRecDepth 100000 in
theorem cd_X12_speaking : inTbl mX12_speaking := List.mem_of_getElem? (i := 1120) rfl
set_option maxRecDepth 100000 in
theorem cd_X12_speaks : inTbl mX12_speaks := List.mem_of_getElem? (i := 1116) rfl
set_option maxRecDepth 100000 in
theorem cd_X12_nextOn : inTbl mX12_nextOn := List.mem_of_getElem? (i := 1130) rfl
set_option maxRecDepth 100000 in
theorem cd_X12_way : inTbl mX12_way := List.mem_of_getElem? (i := 1124) rfl
set_option maxRecDepth 100000 in
theorem cd_X12_doubtOn : inTbl mX12_doubtOn := List.mem_of_getElem? (i := 1138) rfl
set_option maxRecDepth 100000 in
theorem cd_X12_doubt : inTbl mX12_doubt := List.mem_of_getElem? (i := 1134) rfl
set_option maxRecDepth 100000 in
theorem cd_X12_whole : inTbl mX12_whole := List.mem_of_getElem? (i := 1142) rfl
set_option maxRecDepth 100000 in
theorem cd_X12_proof : inTbl mX12_proof := List.mem_of_getElem? (i := 1146) rfl
set_option maxRecDepth 100000 in
theorem cd_X12_proves : inTbl mX12_proves := List.mem_of_getElem? (i := 1150) rfl
set_option maxRecDepth 100000 in
theorem cd_X12_looked : inTbl mX12_looked := List.mem_of_getElem? (i := 1165) rfl
set_option maxRecDepth 100000 in
theorem cd_X12_isMark : inTbl mX12_isMark := List.mem_of_getElem? (i := 1160) rfl
set_option maxRecDepth 100000 in
theorem cd_X12_isSo : inTbl mX12_isSo := List.mem_of_getElem? (i := 1169) rfl
set_option maxRecDepth 100000 in
theorem cd_X12_hide : inTbl mX12_hide := List.mem_of_getElem? (i := 1157) rfl
set_option maxRecDepth 100000 in
theorem cd_X12_foundIn : inTbl mX12_foundIn := List.mem_of_getElem? (i := 1177) rfl
set_option maxRecDepth 100000 in
theorem cd_X12_found : inTbl mX12_found := List.mem_of_getElem? (i := 1173) rfl
set_option maxRecDepth 100000 in
theorem cd_X12_falsely : inTbl mX12_falsely := List.mem_of_getElem? (i := 1181) rfl
set_option maxRecDepth 100000 in
theorem cd_X12_extreme : inTbl mX12_extreme := List.mem_of_getElem? (i := 1200) rfl
set_option maxRecDepth 100000 in
theorem cd_X12_likeness : inTbl mX12_likeness := List.mem_of_getElem? (i := 1196) rfl
set_option maxRecDepth 100000 in
theorem cd_X12_like : inTbl mX12_like := List.mem_of_getElem? (i := 1192) rfl
set_option maxRecDepth 100000 in
theorem cd_X12_nearest : inTbl mX12_nearest := List.mem_of_getElem? (i := 1204) rfl
set_option maxRecDepth 100000 in
theorem cd_X12_coarse : inTbl mX12_coarse := List.mem_of_getElem? (i := 1208) rfl
set_option maxRecDepth 100000 in
theorem cd_X12_look : inTbl mX12_look := List.mem_of_getElem? (i := 1213) rfl
set_option maxRecDepth 100000 in
theorem cd_X12_ofLooks : inTbl mX12_ofLooks := List.mem_of_getElem? (i := 1221) rfl
set_option maxRecDepth 100000 in
theorem cd_X12_best : inTbl mX12_best := List.mem_of_getElem? (i := 1217) rfl
set_option maxRecDepth 100000 in
theorem cd_X12_doubtful : inTbl mX12_doubtful := List.mem_of_getElem? (i := 1225) rfl
set_option maxRecDepth 100000 in
theorem cd_X12_noSheet : inTbl mX12_noSheet := List.mem_of_getElem? (i := 934) rfl
set_option maxRecDepth 100000 in
theorem cd_X12_sheet : inTbl mX12_sheet := List.mem_of_getElem? (i := 1229) rfl
set_option maxRecDepth 100000 in
theorem cd_X12_lose : inTbl mX12_lose := List.mem_of_getElem? (i := 1233) rfl
set_option maxRecDepth 100000 in
theorem cd_X12_noCell : inTbl mX12_noCell := List.mem_of_getElem? (i := 1241) rfl
set_option maxRecDepth 100000 in
theorem cd_X12_put : inTbl mX12_put := List.mem_of_getElem? (i := 1237) rfl
set_option maxRecDepth 100000 in
theorem cd_X12_cell : inTbl mX12_cell := List.mem_of_getElem? (i := 1245) rfl
set_option maxRecDepth 100000 in
theorem cd_X12_isBeyond : inTbl mX12_isBeyond := List.mem_of_getElem? (i := 958) rfl
set_option maxRecDepth 100000 in
theorem cd_X12_copy : inTbl mX12_copy := List.mem_of_getElem? (i := 1253) rfl
set_option maxRecDepth 100000 in
theorem cd_X12_traced : inTbl mX12_traced := List.mem_of_getElem? (i := 1261) rfl
set_option maxRecDepth 100000 in
theorem cd_X12_tell : inTbl mX12_tell := List.mem_of_getElem? (i := 1257) rfl
set_option maxRecDepth 100000 in
theorem cd_X12_show : inTbl mX12_show := List.mem_of_getElem? (i := 1265) rfl
set_option maxRecDepth 100000 in
theorem cd_X12_as : inTbl mX12_as := List.mem_of_getElem? (i := 1269) rfl
set_option maxRecDepth 100000 in
theorem cd_X12_trace : inTbl mX12_trace := List.mem_of_getElem? (i := 1273) rfl
set_option maxRecDepth 100000 in
theorem cd_X12_fault : inTbl mX12_fault := List.mem_of_getElem? (i := 1277) rfl
set_option maxRecDepth 100000 in
theorem cd_X12_many : inTbl mX12_many := List.mem_of_getElem? (i := 1281) rfl
set_option maxRecDepth 100000 in
theorem cd_J9_abs_0f7a4 : inTbl mJ9_abs_0f7a4 := List.mem_of_getElem? (i := 578) rfl
set_option maxRecDepth 100000 in
theorem cd_J9_max_7cf53 : inTbl mJ9_max_7cf53 := List.mem_of_getElem? (i := 311) rfl
set_option maxRecDepth 100000 in
theorem cd_J9_min_7cf53 : inTbl mJ9_min_7cf53 := List.mem_of_getElem? (i := 467) rfl
set_option maxRecDepth 100000 in
theorem cd_J7_fill_53178 : inTbl mJ7_fill_53178 := List.mem_of_getElem? (i := 145) rfl
set_option maxRecDepth 100000 in
theorem cd_J7_copyOf_59c91 : inTbl mJ7_copyOf_59c91 := List.mem_of_getElem? (i := 457) rfl
theorem ckI_RX0_3 : ckI RX0 3 mX7_init 3 = true := by decide +kernel
theorem ckF_RX0_9_0 : ckF RX0 9 0 3 = true := by decide +kernel
theorem ckF_RX0_9_6 : ckF RX0 9 6 0 = true := by decide +kernel
theorem ckF_RX0_15_0 : ckF RX0 15 0 4 = true := by decide +kernel
theorem ckF_RX0_15_6 : ckF RX0 15 6 1 = true := by decide +kernel
theorem ckV_RX0_19 : ckV RX0 19 mX8_leave 1 = true := by decide +kernel
theorem ckSU_RX0_25 : ckSU RX0 25 mX7_telling 1 = true := by decide +kernel
theorem ckO_RX1_3 : Cond.methodLink RX1 3 Lib.objectInit ∈ lw_tbl := by decide +kernel
theorem ckF_RX1_9_1 : ckF RX1 9 1 2 = true := by decide +kernel
theorem ckF_RX1_15_1 : ckF RX1 15 1 0 = true := by decide +kernel
theorem ckF_RX1_18_1 : ckF RX1 18 1 1 = true := by decide +kernel
theorem ckO_RX2_1 : Cond.methodLink RX2 1 Lib.objectInit ∈ lw_tbl := by decide +kernel
theorem ckF_RX2_7_2 : ckF RX2 7 2 0 = true := by decide +kernel
theorem ckF_RX2_13_2 : ckF RX2 13 2 1 = true := by decide +kernel
theorem ckF_RX2_17_2 : ckF RX2 17 2 2 = true := by decide +kernel
theorem ckO_RX3_3 : Cond.methodLink RX3 3 Lib.objectInit ∈ lw_tbl := by decide +kernel
theorem ckF_RX3_9_3 : ckF RX3 9 3 1 = true := by decide +kernel
theorem ckF_RX3_15_3 : ckF RX3 15 3 0 = true := by decide +kernel
theorem ckS_RX3_19 : ckS RX3 19 mJ7_fill_53178 2 = true := by decide +kernel
theorem ckF_RX3_25_3 : ckF RX3 25 3 2 = true := by decide +kernel
theorem ckF_RX3_28_3 : ckF RX3 28 3 3 = true := by decide +kernel
theorem ckV_RX3_31 : ckV RX3 31 mX5_at 1 = true := by decide +kernel
theorem ckV_RX3_37 : ckV RX3 37 mX3_replace 3 = true := by decide +kernel
theorem ckY_RX3_41 : Cond.methodLink RX3 41 arraycopyName ∈ lw_tbl := by decide +kernel
theorem ckS_RX3_47 : ckSN RX3 47 mX11_isPlace 1 = true := by decide +kernel
theorem ckF_RX3_51_3 : ckF RX3 51 3 4 = true := by decide +kernel
theorem ckU_RX3_55_7 : ckU RX3 55 RX7 RX7 ⟨RX7, "origin", "()LPicturePapers$Picture;"⟩ mX7_origin 0 = true := by decide +kernel
theorem ckU_RX3_55_0 : ckU RX3 55 RX0 RX7 ⟨RX7, "origin", "()LPicturePapers$Picture;"⟩ mX0_origin 0 = true := by decide +kernel
theorem ckU_RX3_55_6 : ckU RX3 55 RX6 RX7 ⟨RX7, "origin", "()LPicturePapers$Picture;"⟩ mX0_origin 0 = true := by decide +kernel
theorem ckM_RX3_61 : Cond.methodLink RX3 61 Lib.Math.max.name ∈ lw_tbl := by decide +kernel
theorem ckV_RX3_67 : ckV RX3 67 mX3_sum 0 = true := by decide +kernel
theorem ckV_RX3_71 : ckV RX3 71 mX3_has 1 = true := by decide +kernel
theorem ckM_RX3_74 : Cond.methodLink RX3 74 Lib.Math.min.name ∈ lw_tbl := by decide +kernel
theorem ckV_RX3_77 : ckV RX3 77 mX3_tellsBit 3 = true := by decide +kernel
theorem ckO_RX4_3 : Cond.methodLink RX4 3 Lib.objectInit ∈ lw_tbl := by decide +kernel
theorem ckF_RX4_9_4 : ckF RX4 9 4 0 = true := by decide +kernel
theorem ckF_RX4_15_4 : ckF RX4 15 4 2 = true := by decide +kernel
theorem ckF_RX4_18_4 : ckF RX4 18 4 1 = true := by decide +kernel
theorem ckS_RX4_22 : ckS RX4 22 mJ7_copyOf_59c91 2 = true := by decide +kernel
theorem ckF_RX4_28_5 : ckF RX4 28 5 0 = true := by decide +kernel
theorem ckY_RX4_33 : Cond.methodLink RX4 33 arraycopyName ∈ lw_tbl := by decide +kernel
theorem ckF_RX4_39_4 : ckF RX4 39 4 3 = true := by decide +kernel
theorem ckF_RX4_42_4 : ckF RX4 42 4 4 = true := by decide +kernel
theorem ckV_RX4_45 : ckV RX4 45 mX4_code 0 = true := by decide +kernel
theorem ckS_RX4_49 : ckS RX4 49 mX4_isKind 1 = true := by decide +kernel
theorem ckV_RX4_53 : ckV RX4 53 mX4_readNumber 1 = true := by decide +kernel
theorem ckF_RX4_56_4 : ckF RX4 56 4 5 = true := by decide +kernel
theorem ckV_RX4_59 : ckV RX4 59 mX4_readDigits 1 = true := by decide +kernel
theorem ckV_RX4_63 : ckV RX4 63 mX4_readShift 0 = true := by decide +kernel
theorem ckO_RX5_3 : Cond.methodLink RX5 3 Lib.objectInit ∈ lw_tbl := by decide +kernel
theorem ckF_RX5_9_5 : ckF RX5 9 5 0 = true := by decide +kernel
theorem ckF_RX5_15_5 : ckF RX5 15 5 1 = true := by decide +kernel
theorem ckF_RX5_19_5 : ckF RX5 19 5 2 = true := by decide +kernel
theorem ckF_RX5_23_5 : ckF RX5 23 5 3 = true := by decide +kernel
theorem ckS_RX5_26 : ckS RX5 26 mJ7_fill_53178 2 = true := by decide +kernel
theorem ckV_RX5_32 : ckV RX5 32 mX5_lacks 2 = true := by decide +kernel
theorem ckV_RX5_36 : ckV RX5 36 mX5_at 1 = true := by decide +kernel
theorem ckS_RX5_40 : ckSN RX5 40 mX11_isIn 3 = true := by decide +kernel
theorem ckI_RX6_7 : ckI RX6 7 mX0_init 5 = true := by decide +kernel
theorem ckV_RX6_13 : ckV RX6 13 mX8_leave 1 = true := by decide +kernel
theorem ckSU_RX6_19 : ckSU RX6 19 mX0_telling 1 = true := by decide +kernel
theorem ckU_RX6_23_6 : ckU RX6 23 RX6 RX7 ⟨RX6, "takenTelling", "(LPicturePapers$Trace;)I"⟩ mX7_takenTelling 1 = true := by decide +kernel
theorem ckO_RX7_3 : Cond.methodLink RX7 3 Lib.objectInit ∈ lw_tbl := by decide +kernel
theorem ckF_RX7_9_7 : ckF RX7 9 7 0 = true := by decide +kernel
theorem ckF_RX7_9_0 : ckF RX7 9 0 0 = true := by decide +kernel
theorem ckF_RX7_9_6 : ckF RX7 9 6 2 = true := by decide +kernel
theorem ckF_RX7_15_7 : ckF RX7 15 7 1 = true := by decide +kernel
theorem ckF_RX7_15_0 : ckF RX7 15 0 1 = true := by decide +kernel
theorem ckF_RX7_15_6 : ckF RX7 15 6 3 = true := by decide +kernel
theorem ckF_RX7_19_7 : ckF RX7 19 7 2 = true := by decide +kernel
theorem ckF_RX7_19_0 : ckF RX7 19 0 2 = true := by decide +kernel
theorem ckF_RX7_19_6 : ckF RX7 19 6 4 = true := by decide +kernel
theorem ckU_RX7_26_7 : ckU RX7 26 RX7 RX7 ⟨RX7, "takenTelling", "(LPicturePapers$Trace;)I"⟩ mX7_takenTelling 1 = true := by decide +kernel
theorem ckU_RX7_26_0 : ckU RX7 26 RX0 RX7 ⟨RX7, "takenTelling", "(LPicturePapers$Trace;)I"⟩ mX7_takenTelling 1 = true := by decide +kernel
theorem ckU_RX7_26_6 : ckU RX7 26 RX6 RX7 ⟨RX7, "takenTelling", "(LPicturePapers$Trace;)I"⟩ mX7_takenTelling 1 = true := by decide +kernel
theorem ckV_RX7_30 : ckV RX7 30 mX8_leave 1 = true := by decide +kernel
theorem ckO_RX8_1 : Cond.methodLink RX8 1 Lib.objectInit ∈ lw_tbl := by decide +kernel
theorem ckF_RX8_7_8 : ckF RX8 7 8 0 = true := by decide +kernel
theorem ckO_RX9_3 : Cond.methodLink RX9 3 Lib.objectInit ∈ lw_tbl := by decide +kernel
theorem ckF_RX9_9_9 : ckF RX9 9 9 0 = true := by decide +kernel
theorem ckF_RX9_15_3 : ckF RX9 15 3 1 = true := by decide +kernel
theorem ckS_RX9_20 : ckS RX9 20 mX9_above 2 = true := by decide +kernel
theorem ckO_RX10_3 : Cond.methodLink RX10 3 Lib.objectInit ∈ lw_tbl := by decide +kernel
theorem ckN_RX10_9 : ckN RX10 9 3 = true := by decide +kernel
theorem ckI_RX10_11 : ckI RX10 11 mX3_init 1 = true := by decide +kernel
theorem ckF_RX10_14_10 : ckF RX10 14 10 0 = true := by decide +kernel
theorem ckF_RX10_20_10 : ckF RX10 20 10 1 = true := by decide +kernel
theorem ckV_RX10_24 : ckV RX10 24 mX3_become 1 = true := by decide +kernel
theorem ckV_RX10_28 : ckV RX10 28 mX10_performOne 2 = true := by decide +kernel
theorem ckV_RX10_32 : ckV RX10 32 mX10_holds 4 = true := by decide +kernel
theorem ckV_RX10_36 : ckV RX10 36 mX10_cutToSpare 4 = true := by decide +kernel
theorem ckV_RX10_40 : ckV RX10 40 mX3_replace 3 = true := by decide +kernel
theorem ckV_RX10_44 : ckV RX10 44 mX10_turnToSpare 0 = true := by decide +kernel
theorem ckF_RX10_47_3 : ckF RX10 47 3 3 = true := by decide +kernel
theorem ckF_RX10_51_3 : ckF RX10 51 3 2 = true := by decide +kernel
theorem ckV_RX10_54 : ckV RX10 54 mX10_blur 4 = true := by decide +kernel
theorem ckV_RX10_57 : ckV RX10 57 mX10_shift 1 = true := by decide +kernel
theorem ckV_RX10_60 : ckV RX10 60 mX10_saveWorse 1 = true := by decide +kernel
theorem ckS_RX10_63 : ckS RX10 63 mJ7_fill_53178 2 = true := by decide +kernel
theorem ckF_RX10_69_3 : ckF RX10 69 3 1 = true := by decide +kernel
theorem ckM_RX10_72 : Cond.methodLink RX10 72 Lib.Math.min.name ∈ lw_tbl := by decide +kernel
theorem ckM_RX10_78 : Cond.methodLink RX10 78 Lib.Math.max.name ∈ lw_tbl := by decide +kernel
theorem ckO_RX11_3 : Cond.methodLink RX11 3 Lib.objectInit ∈ lw_tbl := by decide +kernel
theorem ckA_RX11_11 : ckA RX11 11 21 = true := by decide +kernel
theorem ckF_RX11_13_11 : ckF RX11 13 11 0 = true := by decide +kernel
theorem ckA_RX11_17 : ckA RX11 17 22 = true := by decide +kernel
theorem ckF_RX11_19_11 : ckF RX11 19 11 1 = true := by decide +kernel
theorem ckA_RX11_23 : ckA RX11 23 23 = true := by decide +kernel
theorem ckF_RX11_25_11 : ckF RX11 25 11 2 = true := by decide +kernel
theorem ckA_RX11_29 : ckA RX11 29 24 = true := by decide +kernel
theorem ckF_RX11_31_11 : ckF RX11 31 11 3 = true := by decide +kernel
theorem ckN_RX11_35 : ckN RX11 35 9 = true := by decide +kernel
theorem ckI_RX11_37 : ckIN RX11 37 mX9_init 0 = true := by decide +kernel
theorem ckF_RX11_38_11 : ckF RX11 38 11 4 = true := by decide +kernel
theorem ckN_RX11_42 : ckN RX11 42 4 = true := by decide +kernel
theorem ckI_RX11_44 : ckIN RX11 44 mX4_init 0 = true := by decide +kernel
theorem ckF_RX11_45_11 : ckF RX11 45 11 5 = true := by decide +kernel
theorem ckN_RX11_49 : ckN RX11 49 10 = true := by decide +kernel
theorem ckI_RX11_51 : ckIN RX11 51 mX10_init 0 = true := by decide +kernel
theorem ckF_RX11_52_11 : ckF RX11 52 11 6 = true := by decide +kernel
theorem ckN_RX11_56 : ckN RX11 56 8 = true := by decide +kernel
theorem ckI_RX11_58 : ckIN RX11 58 mX8_init 0 = true := by decide +kernel
theorem ckF_RX11_59_11 : ckF RX11 59 11 7 = true := by decide +kernel
theorem ckN_RX11_29 : ckN RX11 29 5 = true := by decide +kernel
theorem ckI_RX11_63 : ckIN RX11 63 mX5_init 0 = true := by decide +kernel
theorem ckF_RX11_64_11 : ckF RX11 64 11 12 = true := by decide +kernel
theorem ckV_RX11_68 : ckV RX11 68 mX11_sheetAt 1 = true := by decide +kernel
theorem ckS_RX11_72 : ckS RX11 72 mX11_isIn 3 = true := by decide +kernel
theorem ckS_RX11_76 : ckS RX11 76 mX11_isLane 1 = true := by decide +kernel
theorem ckV_RX11_80 : ckV RX11 80 mX5_faultOf 3 = true := by decide +kernel
theorem ckV_RX11_84 : ckV RX11 84 mX11_failed 1 = true := by decide +kernel
theorem ckV_RX11_88 : ckV RX11 88 mX5_holdsSquares 2 = true := by decide +kernel
theorem ckF_RX11_92_11 : ckF RX11 92 11 8 = true := by decide +kernel
theorem ckV_RX11_95 : ckV RX11 95 mX11_addPicture 0 = true := by decide +kernel
theorem ckV_RX11_99 : ckV RX11 99 mX3_fill 4 = true := by decide +kernel
theorem ckF_RX11_103_3 : ckF RX11 103 3 0 = true := by decide +kernel
theorem ckV_RX11_106 : ckV RX11 106 mX11_pictureAt 1 = true := by decide +kernel
theorem ckF_RX11_110_3 : ckF RX11 110 3 2 = true := by decide +kernel
theorem ckF_RX11_113_3 : ckF RX11 113 3 3 = true := by decide +kernel
theorem ckV_RX11_116 : ckV RX11 116 mX3_sum 0 = true := by decide +kernel
theorem ckV_RX11_120 : ckV RX11 120 mX9_rootOf 1 = true := by decide +kernel
theorem ckV_RX11_124 : ckV RX11 124 mX3_has 1 = true := by decide +kernel
theorem ckF_RX11_127_3 : ckF RX11 127 3 1 = true := by decide +kernel
theorem ckF_RX11_131_11 : ckF RX11 131 11 9 = true := by decide +kernel
theorem ckN_RX11_17 : ckN RX11 17 1 = true := by decide +kernel
theorem ckI_RX11_134 : ckI RX11 134 mX1_init 2 = true := by decide +kernel
theorem ckV_RX11_137 : ckV RX11 137 mX11_lensAt 1 = true := by decide +kernel
theorem ckF_RX11_141_1 : ckF RX11 141 1 2 = true := by decide +kernel
theorem ckS_RX11_144 : ckS RX11 144 mX11_isHour 1 = true := by decide +kernel
theorem ckF_RX11_147_3 : ckF RX11 147 3 4 = true := by decide +kernel
theorem ckN_RX11_151 : ckN RX11 151 7 = true := by decide +kernel
theorem ckV_RX11_153 : ckV RX11 153 mX11_sealOf 3 = true := by decide +kernel
theorem ckI_RX11_157 : ckI RX11 157 mX7_init 3 = true := by decide +kernel
theorem ckF_RX11_160_7 : ckF RX11 160 7 2 = true := by decide +kernel
theorem ckF_RX11_160_0 : ckF RX11 160 0 2 = true := by decide +kernel
theorem ckF_RX11_160_6 : ckF RX11 160 6 4 = true := by decide +kernel
theorem ckN_RX11_163 : ckN RX11 163 6 = true := by decide +kernel
theorem ckI_RX11_165 : ckI RX11 165 mX6_init 4 = true := by decide +kernel
theorem ckV_RX11_168 : ckV RX11 168 mX11_readActs 4 = true := by decide +kernel
theorem ckN_RX11_172 : ckN RX11 172 0 = true := by decide +kernel
theorem ckV_RX11_174 : ckV RX11 174 mX4_keptActs 0 = true := by decide +kernel
theorem ckI_RX11_178 : ckI RX11 178 mX0_init 5 = true := by decide +kernel
theorem ckF_RX11_181_4 : ckF RX11 181 4 0 = true := by decide +kernel
theorem ckF_RX11_184_4 : ckF RX11 184 4 1 = true := by decide +kernel
theorem ckV_RX11_187 : ckV RX11 187 mX10_perform 3 = true := by decide +kernel
theorem ckF_RX11_191_10 : ckF RX11 191 10 0 = true := by decide +kernel
theorem ckV_RX11_195 : ckV RX11 195 mX3_become 1 = true := by decide +kernel
theorem ckU_RX11_199_7 : ckU RX11 199 RX7 RX7 ⟨RX7, "kind", "()I"⟩ mX7_kind 0 = true := by decide +kernel
theorem ckU_RX11_199_0 : ckU RX11 199 RX0 RX7 ⟨RX7, "kind", "()I"⟩ mX0_kind 0 = true := by decide +kernel
theorem ckU_RX11_199_6 : ckU RX11 199 RX6 RX7 ⟨RX7, "kind", "()I"⟩ mX6_kind 0 = true := by decide +kernel
theorem ckF_RX11_202_7 : ckF RX11 202 7 0 = true := by decide +kernel
theorem ckF_RX11_202_0 : ckF RX11 202 0 0 = true := by decide +kernel
theorem ckF_RX11_202_6 : ckF RX11 202 6 2 = true := by decide +kernel
theorem ckF_RX11_206_1 : ckF RX11 206 1 0 = true := by decide +kernel
theorem ckF_RX11_207_7 : ckF RX11 207 7 1 = true := by decide +kernel
theorem ckF_RX11_207_0 : ckF RX11 207 0 1 = true := by decide +kernel
theorem ckF_RX11_207_6 : ckF RX11 207 6 3 = true := by decide +kernel
theorem ckU_RX11_210_7 : ckU RX11 210 RX7 RX7 ⟨RX7, "origin", "()LPicturePapers$Picture;"⟩ mX7_origin 0 = true := by decide +kernel
theorem ckU_RX11_210_0 : ckU RX11 210 RX0 RX7 ⟨RX7, "origin", "()LPicturePapers$Picture;"⟩ mX0_origin 0 = true := by decide +kernel
theorem ckU_RX11_210_6 : ckU RX11 210 RX6 RX7 ⟨RX7, "origin", "()LPicturePapers$Picture;"⟩ mX0_origin 0 = true := by decide +kernel
theorem ckU_RX11_213_7 : ckU RX11 213 RX7 RX7 ⟨RX7, "acts", "()[I"⟩ mX7_acts 0 = true := by decide +kernel
theorem ckU_RX11_213_0 : ckU RX11 213 RX0 RX7 ⟨RX7, "acts", "()[I"⟩ mX0_acts 0 = true := by decide +kernel
theorem ckU_RX11_213_6 : ckU RX11 213 RX6 RX7 ⟨RX7, "acts", "()[I"⟩ mX0_acts 0 = true := by decide +kernel
theorem ckV_RX11_215 : ckV RX11 215 mX11_voiceOf 2 = true := by decide +kernel
theorem ckV_RX11_219 : ckV RX11 219 mX11_firstFarPlace 2 = true := by decide +kernel
theorem ckF_RX11_222_11 : ckF RX11 222 11 11 = true := by decide +kernel
theorem ckV_RX11_225 : ckV RX11 225 mX3_origin 0 = true := by decide +kernel
theorem ckV_RX11_226 : ckV RX11 226 mX11_firstDoubt 1 = true := by decide +kernel
theorem ckS_RX11_229 : ckS RX11 229 mX11_isPlace 1 = true := by decide +kernel
theorem ckV_RX11_232 : ckV RX11 232 mX9_beside 2 = true := by decide +kernel
theorem ckV_RX11_236 : ckV RX11 236 mX5_at 1 = true := by decide +kernel
theorem ckS_RX11_239 : ckS RX11 239 mX9_above 2 = true := by decide +kernel
theorem ckS_RX11_242 : ckS RX11 242 mX11_isMark 1 = true := by decide +kernel
theorem ckV_RX11_245 : ckV RX11 245 mX3_imprint 1 = true := by decide +kernel
theorem ckV_RX11_248 : ckV RX11 248 mX3_agreement 1 = true := by decide +kernel
theorem ckL_RX11_251 : Cond.constantLong RX11 251 (-9223372036854775808) ∈ lw_tbl := by decide +kernel
theorem ckM_RX11_253 : Cond.methodLink RX11 253 Lib.Math.min.name ∈ lw_tbl := by decide +kernel
theorem ckS_RX11_258 : ckS RX11 258 mX11_waysOfAtLeast 2 = true := by decide +kernel
theorem ckL_RX11_262 : Cond.constantLong RX11 262 (2) ∈ lw_tbl := by decide +kernel
theorem ckS_RX11_264 : ckS RX11 264 mX11_likeness 2 = true := by decide +kernel
theorem ckV_RX11_268 : ckV RX11 268 mX11_countNearer 2 = true := by decide +kernel
theorem ckF_RX11_271_11 : ckF RX11 271 11 10 = true := by decide +kernel
theorem ckN_RX11_23 : ckN RX11 23 2 = true := by decide +kernel
theorem ckI_RX11_274 : ckI RX11 274 mX2_init 3 = true := by decide +kernel
theorem ckV_RX11_277 : ckV RX11 277 mX11_hoursOf 1 = true := by decide +kernel
theorem ckV_RX11_280 : ckV RX11 280 mX11_worthOf 1 = true := by decide +kernel
theorem ckF_RX11_283_2 : ckF RX11 283 2 0 = true := by decide +kernel
theorem ckV_RX11_286 : ckV RX11 286 mX5_renew 2 = true := by decide +kernel
theorem ckF_RX11_289_5 : ckF RX11 289 5 1 = true := by decide +kernel
theorem ckF_RX11_293_5 : ckF RX11 293 5 2 = true := by decide +kernel
theorem ckV_RX11_296 : ckV RX11 296 mX5_write 2 = true := by decide +kernel
theorem ckV_RX11_299 : ckV RX11 299 mX5_lacks 2 = true := by decide +kernel
theorem ckF_RX11_302_5 : ckF RX11 302 5 0 = true := by decide +kernel
theorem ckY_RX11_305 : Cond.methodLink RX11 305 arraycopyName ∈ lw_tbl := by decide +kernel
theorem ckU_RX11_311_7 : ckU RX11 311 RX7 RX7 ⟨RX7, "telling", "(LPicturePapers$Trace;)I"⟩ mX7_telling 1 = true := by decide +kernel
theorem ckU_RX11_311_0 : ckU RX11 311 RX0 RX7 ⟨RX7, "telling", "(LPicturePapers$Trace;)I"⟩ mX0_telling 1 = true := by decide +kernel
theorem ckU_RX11_311_6 : ckU RX11 311 RX6 RX7 ⟨RX7, "telling", "(LPicturePapers$Trace;)I"⟩ mX6_telling 1 = true := by decide +kernel
theorem ckU_RX11_315_7 : ckU RX11 315 RX7 RX7 ⟨RX7, "showing", "(LPicturePapers$Trace;)I"⟩ mX7_showing 1 = true := by decide +kernel
theorem ckU_RX11_315_0 : ckU RX11 315 RX0 RX7 ⟨RX7, "showing", "(LPicturePapers$Trace;)I"⟩ mX7_showing 1 = true := by decide +kernel
theorem ckU_RX11_315_6 : ckU RX11 315 RX6 RX7 ⟨RX7, "showing", "(LPicturePapers$Trace;)I"⟩ mX6_showing 1 = true := by decide +kernel
theorem ckF_RX11_318_8 : ckF RX11 318 8 0 = true := by decide +kernel
theorem ckV_RX11_321 : ckV RX11 321 mX11_countPapers 0 = true := by decide +kernel
theorem ckN_RX11_11 : ckN RX11 11 3 = true := by decide +kernel
theorem ckI_RX11_324 : ckI RX11 324 mX3_init 1 = true := by decide +kernel
theorem ckV_RX11_327 : ckV RX11 327 mX4_read 3 = true := by decide +kernel
theorem ckF_RX11_331_1 : ckF RX11 331 1 1 = true := by decide +kernel
theorem ckM_RX11_334 : Cond.methodLink RX11 334 Lib.Math.abs.name ∈ lw_tbl := by decide +kernel
theorem ckV_RX11_337 : ckV RX11 337 mX3_mean 0 = true := by decide +kernel
theorem ckV_RX11_340 : ckV RX11 340 mX3_least 0 = true := by decide +kernel
theorem ckV_RX11_343 : ckV RX11 343 mX3_greatest 0 = true := by decide +kernel
theorem ckF_RX11_346_2 : ckF RX11 346 2 1 = true := by decide +kernel
theorem ckF_RX11_349_2 : ckF RX11 349 2 2 = true := by decide +kernel
theorem ckO_RX12_1 : Cond.methodLink RX12 1 Lib.objectInit ∈ lw_tbl := by decide +kernel
theorem ckF_RX12_7_12 : ckF RX12 7 12 2 = true := by decide +kernel
theorem ckF_RX12_13_12 : ckF RX12 13 12 3 = true := by decide +kernel
theorem ckF_RX12_16_12 : ckF RX12 16 12 4 = true := by decide +kernel
theorem ckF_RX12_19_12 : ckF RX12 19 12 5 = true := by decide +kernel
theorem ckF_RX12_22_12 : ckF RX12 22 12 7 = true := by decide +kernel
theorem ckF_RX12_25_12 : ckF RX12 25 12 11 = true := by decide +kernel
theorem ckF_RX12_28_12 : ckF RX12 28 12 12 = true := by decide +kernel
theorem ckF_RX12_31_12 : ckF RX12 31 12 14 = true := by decide +kernel
theorem ckF_RX12_34_12 : ckF RX12 34 12 15 = true := by decide +kernel
theorem ckF_RX12_37_12 : ckF RX12 37 12 16 = true := by decide +kernel
theorem ckF_RX12_40_12 : ckF RX12 40 12 17 = true := by decide +kernel
theorem ckF_RX12_43_12 : ckF RX12 43 12 18 = true := by decide +kernel
theorem ckF_RX12_46_12 : ckF RX12 46 12 19 = true := by decide +kernel
theorem ckF_RX12_49_12 : ckF RX12 49 12 20 = true := by decide +kernel
theorem ckF_RX12_52_12 : ckF RX12 52 12 21 = true := by decide +kernel
theorem ckF_RX12_55_12 : ckF RX12 55 12 22 = true := by decide +kernel
theorem ckF_RX12_58_12 : ckF RX12 58 12 25 = true := by decide +kernel
theorem ckF_RX12_61_12 : ckF RX12 61 12 26 = true := by decide +kernel
theorem ckF_RX12_64_12 : ckF RX12 64 12 27 = true := by decide +kernel
theorem ckF_RX12_67_12 : ckF RX12 67 12 28 = true := by decide +kernel
theorem ckF_RX12_70_12 : ckF RX12 70 12 29 = true := by decide +kernel
theorem ckF_RX12_73_12 : ckF RX12 73 12 30 = true := by decide +kernel
theorem ckF_RX12_76_12 : ckF RX12 76 12 31 = true := by decide +kernel
theorem ckL_RX12_79 : Cond.constantLong RX12 79 (-9223372036854775808) ∈ lw_tbl := by decide +kernel
theorem ckF_RX12_81_12 : ckF RX12 81 12 0 = true := by decide +kernel
theorem ckS_RX12_85 : ckS RX12 85 mX12_lost 0 = true := by decide +kernel
theorem ckV_RX12_89 : ckV RX12 89 mX12_failed 1 = true := by decide +kernel
theorem ckS_RX12_93 : ckS RX12 93 mX12_isBeyond 3 = true := by decide +kernel
theorem ckL_RX12_97 : Cond.constantLong RX12 97 (2) ∈ lw_tbl := by decide +kernel
theorem ckS_RX12_99 : ckS RX12 99 mX12_in 3 = true := by decide +kernel
theorem ckL_RX12_103 : Cond.constantLong RX12 103 (999) ∈ lw_tbl := by decide +kernel
theorem ckF_RX12_105_12 : ckF RX12 105 12 1 = true := by decide +kernel
theorem ckL_RX12_108 : Cond.constantLong RX12 108 (15) ∈ lw_tbl := by decide +kernel
theorem ckS_RX12_110 : ckS RX12 110 mX12_noSheet 1 = true := by decide +kernel
theorem ckV_RX12_114 : ckV RX12 114 mX12_refused 1 = true := by decide +kernel
theorem ckL_RX12_117 : Cond.constantLong RX12 117 (4) ∈ lw_tbl := by decide +kernel
theorem ckS_RX12_119 : ckS RX12 119 mX12_isLane 1 = true := by decide +kernel
theorem ckV_RX12_122 : ckV RX12 122 mX12_barred 4 = true := by decide +kernel
theorem ckL_RX12_126 : Cond.constantLong RX12 126 (99) ∈ lw_tbl := by decide +kernel
theorem ckV_RX12_128 : ckV RX12 128 mX12_manySquares 1 = true := by decide +kernel
theorem ckV_RX12_131 : ckV RX12 131 mX12_placeOf 2 = true := by decide +kernel
theorem ckV_RX12_135 : ckV RX12 135 mX12_isThere 2 = true := by decide +kernel
theorem ckS_RX12_139 : ckS RX12 139 mX12_above 2 = true := by decide +kernel
theorem ckV_RX12_142 : ckV RX12 142 mX12_layTree 1 = true := by decide +kernel
theorem ckV_RX12_146 : ckV RX12 146 mX12_noPicture 1 = true := by decide +kernel
theorem ckV_RX12_149 : ckV RX12 149 mX12_sumOf 1 = true := by decide +kernel
theorem ckV_RX12_152 : ckV RX12 152 mX12_rootOf 1 = true := by decide +kernel
theorem ckL_RX12_155 : Cond.constantLong RX12 155 (10) ∈ lw_tbl := by decide +kernel
theorem ckL_RX12_157 : Cond.constantLong RX12 157 (25) ∈ lw_tbl := by decide +kernel
theorem ckF_RX12_159_12 : ckF RX12 159 12 8 = true := by decide +kernel
theorem ckL_RX12_162 : Cond.constantLong RX12 162 (48) ∈ lw_tbl := by decide +kernel
theorem ckL_RX12_164 : Cond.constantLong RX12 164 (57) ∈ lw_tbl := by decide +kernel
theorem ckF_RX12_166_12 : ckF RX12 166 12 6 = true := by decide +kernel
theorem ckV_RX12_169 : ckV RX12 169 mX12_isDigit 2 = true := by decide +kernel
theorem ckL_RX12_172 : Cond.constantLong RX12 172 (9) ∈ lw_tbl := by decide +kernel
theorem ckV_RX12_174 : ckV RX12 174 mX12_readsNumbers 3 = true := by decide +kernel
theorem ckF_RX12_178_12 : ckF RX12 178 12 9 = true := by decide +kernel
theorem ckF_RX12_181_12 : ckF RX12 181 12 10 = true := by decide +kernel
theorem ckS_RX12_184 : ckS RX12 184 mX12_lesser 2 = true := by decide +kernel
theorem ckS_RX12_187 : ckS RX12 187 mX12_greater 2 = true := by decide +kernel
theorem ckV_RX12_190 : ckV RX12 190 mX12_doPart 2 = true := by decide +kernel
theorem ckV_RX12_194 : ckV RX12 194 mX12_turn 0 = true := by decide +kernel
theorem ckS_RX12_197 : ckS RX12 197 mX12_tinted 3 = true := by decide +kernel
theorem ckV_RX12_201 : ckV RX12 201 mX12_readActs 2 = true := by decide +kernel
theorem ckV_RX12_204 : ckV RX12 204 mX12_takeInHand 1 = true := by decide +kernel
theorem ckV_RX12_207 : ckV RX12 207 mX12_doActs 3 = true := by decide +kernel
theorem ckF_RX12_211_12 : ckF RX12 211 12 13 = true := by decide +kernel
theorem ckL_RX12_214 : Cond.constantLong RX12 214 (9972) ∈ lw_tbl := by decide +kernel
theorem ckV_RX12_216 : ckV RX12 216 mX12_noLens 1 = true := by decide +kernel
theorem ckL_RX12_219 : Cond.constantLong RX12 219 (1000) ∈ lw_tbl := by decide +kernel
theorem ckV_RX12_221 : ckV RX12 221 mX12_sealOf 3 = true := by decide +kernel
theorem ckS_RX12_224 : ckS RX12 224 mX12_isHour 1 = true := by decide +kernel
theorem ckV_RX12_227 : ckV RX12 227 mX12_noLine 1 = true := by decide +kernel
theorem ckV_RX12_230 : ckV RX12 230 mX12_write 5 = true := by decide +kernel
theorem ckL_RX12_234 : Cond.constantLong RX12 234 (5) ∈ lw_tbl := by decide +kernel
theorem ckL_RX12_236 : Cond.constantLong RX12 236 (20) ∈ lw_tbl := by decide +kernel
theorem ckF_RX12_238_12 : ckF RX12 238 12 23 = true := by decide +kernel
theorem ckS_RX12_241 : ckS RX12 241 mX12_sizeOf 1 = true := by decide +kernel
theorem ckV_RX12_244 : ckV RX12 244 mX12_played 1 = true := by decide +kernel
theorem ckV_RX12_247 : ckV RX12 247 mX12_speaking 1 = true := by decide +kernel
theorem ckL_RX12_250 : Cond.constantLong RX12 250 (-1) ∈ lw_tbl := by decide +kernel
theorem ckL_RX12_252 : Cond.constantLong RX12 252 (11) ∈ lw_tbl := by decide +kernel
theorem ckV_RX12_254 : ckV RX12 254 mX12_nextOn 1 = true := by decide +kernel
theorem ckV_RX12_257 : ckV RX12 257 mX12_doubtOn 1 = true := by decide +kernel
theorem ckL_RX12_260 : Cond.constantLong RX12 260 (3) ∈ lw_tbl := by decide +kernel
theorem ckS_RX12_262 : ckS RX12 262 mX12_hasBit 2 = true := by decide +kernel
theorem ckL_RX12_265 : Cond.constantLong RX12 265 (255) ∈ lw_tbl := by decide +kernel
theorem ckS_RX12_267 : ckS RX12 267 mX12_isMark 1 = true := by decide +kernel
theorem ckV_RX12_270 : ckV RX12 270 mX12_looked 1 = true := by decide +kernel
theorem ckV_RX12_273 : ckV RX12 273 mX12_isSo 3 = true := by decide +kernel
theorem ckV_RX12_276 : ckV RX12 276 mX12_foundIn 2 = true := by decide +kernel
theorem ckS_RX12_279 : ckS RX12 279 mX12_share 3 = true := by decide +kernel
theorem ckV_RX12_283 : ckV RX12 283 mX12_extreme 2 = true := by decide +kernel
theorem ckV_RX12_286 : ckV RX12 286 mX12_likeness 2 = true := by decide +kernel
theorem ckL_RX12_289 : Cond.constantLong RX12 289 (24) ∈ lw_tbl := by decide +kernel
theorem ckF_RX12_291_12 : ckF RX12 291 12 24 = true := by decide +kernel
theorem ckV_RX12_294 : ckV RX12 294 mX12_ofLooks 2 = true := by decide +kernel
theorem ckV_RX12_297 : ckV RX12 297 mX12_noCell 2 = true := by decide +kernel
theorem ckV_RX12_300 : ckV RX12 300 mX12_failedLong 1 = true := by decide +kernel
theorem ckF_RX12_304_12 : ckF RX12 304 12 32 = true := by decide +kernel
theorem ckV_RX12_307 : ckV RX12 307 mX12_traced 1 = true := by decide +kernel
theorem ckM_RJ7_304 : Cond.methodLink RJ7 304 Lib.Math.min.name ∈ lw_tbl := by decide +kernel
theorem ckY_RJ7_150 : Cond.methodLink RJ7 150 arraycopyName ∈ lw_tbl := by decide +kernel
theorem ckP12_0 : ckP 12 0 = true := by decide +kernel
theorem ckP12_1 : ckP 12 1 = true := by decide +kernel
theorem ckP12_2 : ckP 12 2 = false := by decide +kernel
theorem ckP12_3 : ckP 12 3 = false := by decide +kernel
theorem ckP12_4 : ckP 12 4 = false := by decide +kernel
theorem ckP12_5 : ckP 12 5 = false := by decide +kernel
theorem ckP12_6 : ckP 12 6 = true := by decide +kernel
theorem ckP12_7 : ckP 12 7 = false := by decide +kernel
theorem ckP12_8 : ckP 12 8 = true := by decide +kernel
theorem ckP12_9 : ckP 12 9 = true := by decide +kernel
theorem ckP12_10 : ckP 12 10 = true := by decide +kernel
theorem ckP12_11 : ckP 12 11 = false := by decide +kernel
theorem ckP12_12 : ckP 12 12 = false := by decide +kernel
theorem ckP12_13 : ckP 12 13 = true := by decide +kernel
theorem ckP12_14 : ckP 12 14 = false := by decide +kernel
theorem ckP12_15 : ckP 12 15 = false := by decide +kernel
theorem ckP12_16 : ckP 12 16 = false := by decide +kernel
theorem ckP12_17 : ckP 12 17 = false := by decide +kernel
theorem ckP12_18 : ckP 12 18 = false := by decide +kernel
theorem ckP12_19 : ckP 12 19 = false := by decide +kernel
theorem ckP12_20 : ckP 12 20 = false := by decide +kernel
theorem ckP12_21 : ckP 12 21 = false := by decide +kernel
theorem ckP12_22 : ckP 12 22 = false := by decide +kernel
theorem ckP12_23 : ckP 12 23 = true := by decide +kernel
theorem ckP12_24 : ckP 12 24 = true := by decide +kernel
theorem ckP12_25 : ckP 12 25 = false := by decide +kernel
theorem ckP12_26 : ckP 12 26 = false := by decide +kernel
theorem ckP12_27 : ckP 12 27 = false := by decide +kernel
theorem ckP12_28 : ckP 12 28 = false := by decide +kernel
theorem ckP12_29 : ckP 12 29 = false := by decide +kernel
theorem ckP12_30 : ckP 12 30 = false := by decide +kernel
theorem ckP12_31 : ckP 12 31 = false := by decide +kernel
theorem ckP12_32 : ckP 12 32 = true := by decide +kernel
