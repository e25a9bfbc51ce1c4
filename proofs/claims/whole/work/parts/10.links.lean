abbrev md_X0_keep : MD := (RX0, yX0_keep, cX0_keep, 6, none, 0)
set_option maxRecDepth 20000 in
theorem lm_X0_keep : Lm md_X0_keep 4 := ⟨lw_mem 111 (by decide +kernel) (by decide +kernel), lw_mem 561 rfl rfl, by decide +kernel, by decide⟩
theorem lv_X0_keep : LmV md_X0_keep := ⟨lw_mem 559 (by decide +kernel) (by decide +kernel), lw_mem 560 (by decide +kernel) (by decide +kernel)⟩
abbrev md_X0_cell : MD := (RX0, yX0_cell, cX0_cell, 3, (some .int), 0)
set_option maxRecDepth 20000 in
theorem lm_X0_cell : Lm md_X0_cell 2 := ⟨lw_mem 111 (by decide +kernel) (by decide +kernel), lw_mem 626 rfl rfl, by decide +kernel, by decide⟩
theorem lv_X0_cell : LmV md_X0_cell := ⟨lw_mem 625 (by decide +kernel) (by decide +kernel), lw_mem 3 (by decide +kernel) (by decide +kernel)⟩
abbrev md_X0_kind : MD := (RX0, yX0_kind, cX0_kind, 2, (some .int), 0)
set_option maxRecDepth 20000 in
theorem lm_X0_kind : Lm md_X0_kind 1 := ⟨lw_mem 111 (by decide +kernel) (by decide +kernel), lw_mem 634 rfl rfl, by decide +kernel, by decide⟩
theorem lv_X0_kind : LmV md_X0_kind := ⟨lw_mem 632 (by decide +kernel) (by decide +kernel), lw_mem 633 (by decide +kernel) (by decide +kernel)⟩
abbrev md_X0_one : MD := (RX0, yX0_one, cX0_one, 2, (some .int), 0)
set_option maxRecDepth 20000 in
theorem lm_X0_one : Lm md_X0_one 1 := ⟨lw_mem 111 (by decide +kernel) (by decide +kernel), lw_mem 622 rfl rfl, by decide +kernel, by decide⟩
theorem lv_X0_one : LmV md_X0_one := ⟨lw_mem 620 (by decide +kernel) (by decide +kernel), lw_mem 621 (by decide +kernel) (by decide +kernel)⟩
abbrev md_X0_two : MD := (RX0, yX0_two, cX0_two, 2, (some .int), 0)
set_option maxRecDepth 20000 in
theorem lm_X0_two : Lm md_X0_two 1 := ⟨lw_mem 111 (by decide +kernel) (by decide +kernel), lw_mem 630 rfl rfl, by decide +kernel, by decide⟩
theorem lv_X0_two : LmV md_X0_two := ⟨lw_mem 628 (by decide +kernel) (by decide +kernel), lw_mem 629 (by decide +kernel) (by decide +kernel)⟩
abbrev md_X0_three : MD := (RX0, yX0_three, cX0_three, 2, (some .int), 0)
set_option maxRecDepth 20000 in
theorem lm_X0_three : Lm md_X0_three 1 := ⟨lw_mem 111 (by decide +kernel) (by decide +kernel), lw_mem 642 rfl rfl, by decide +kernel, by decide⟩
theorem lv_X0_three : LmV md_X0_three := ⟨lw_mem 640 (by decide +kernel) (by decide +kernel), lw_mem 641 (by decide +kernel) (by decide +kernel)⟩
abbrev md_X0_copy : MD := (RX0, yX0_copy, cX0_copy, 2, none, 0)
set_option maxRecDepth 20000 in
theorem lm_X0_copy : Lm md_X0_copy 1 := ⟨lw_mem 111 (by decide +kernel) (by decide +kernel), lw_mem 766 rfl rfl, by decide +kernel, by decide⟩
theorem lv_X0_copy : LmV md_X0_copy := ⟨lw_mem 764 (by decide +kernel) (by decide +kernel), lw_mem 765 (by decide +kernel) (by decide +kernel)⟩
abbrev md_X1_has : MD := (RX1, yX1_has, cX1_has, 2, (some .boolean), 0)
set_option maxRecDepth 20000 in
theorem lm_X1_has : Lm md_X1_has 1 := ⟨lw_mem 107 (by decide +kernel) (by decide +kernel), lw_mem 605 rfl rfl, by decide +kernel, by decide⟩
theorem lv_X1_has : LmV md_X1_has := ⟨lw_mem 603 (by decide +kernel) (by decide +kernel), lw_mem 604 (by decide +kernel) (by decide +kernel)⟩
abbrev md_X1_between : MD := (RX1, yX1_between, cX1_between, 4, (some .boolean), 0)
set_option maxRecDepth 20000 in
theorem lm_X1_between : Lm md_X1_between 2 := ⟨lw_mem 107 (by decide +kernel) (by decide +kernel), lw_mem 579 rfl rfl, by decide +kernel, by decide⟩
theorem lv_X1_between : LmV md_X1_between := ⟨lw_mem 577 (by decide +kernel) (by decide +kernel), lw_mem 578 (by decide +kernel) (by decide +kernel)⟩
abbrev md_X1_of : MD := (RX1, yX1_of, cX1_of, 4, (some .int), 0)
set_option maxRecDepth 20000 in
theorem lm_X1_of : Lm md_X1_of 1 := ⟨lw_mem 107 (by decide +kernel) (by decide +kernel), lw_mem 1115 rfl rfl, by decide +kernel, by decide⟩
theorem lv_X1_of : LmV md_X1_of := ⟨lw_mem 1113 (by decide +kernel) (by decide +kernel), lw_mem 1114 (by decide +kernel) (by decide +kernel)⟩
abbrev md_X1_insert : MD := (RX1, yX1_insert, cX1_insert, 5, none, 0)
set_option maxRecDepth 20000 in
theorem lm_X1_insert : Lm md_X1_insert 3 := ⟨lw_mem 107 (by decide +kernel) (by decide +kernel), lw_mem 651 rfl rfl, by decide +kernel, by decide⟩
theorem lv_X1_insert : LmV md_X1_insert := ⟨lw_mem 649 (by decide +kernel) (by decide +kernel), lw_mem 650 (by decide +kernel) (by decide +kernel)⟩
abbrev md_X1_remove : MD := (RX1, yX1_remove, cX1_remove, 3, none, 0)
set_option maxRecDepth 20000 in
theorem lm_X1_remove : Lm md_X1_remove 1 := ⟨lw_mem 107 (by decide +kernel) (by decide +kernel), lw_mem 609 rfl rfl, by decide +kernel, by decide⟩
theorem lv_X1_remove : LmV md_X1_remove := ⟨lw_mem 607 (by decide +kernel) (by decide +kernel), lw_mem 608 (by decide +kernel) (by decide +kernel)⟩
abbrev md_X1_copy : MD := (RX1, yX1_copy, cX1_copy, 2, none, 0)
set_option maxRecDepth 20000 in
theorem lm_X1_copy : Lm md_X1_copy 1 := ⟨lw_mem 107 (by decide +kernel) (by decide +kernel), lw_mem 718 rfl rfl, by decide +kernel, by decide⟩
theorem lv_X1_copy : LmV md_X1_copy := ⟨lw_mem 716 (by decide +kernel) (by decide +kernel), lw_mem 717 (by decide +kernel) (by decide +kernel)⟩
abbrev md_X2_gather : MD := (RX2, yX2_gather, cX2_gather, 5, none, 0)
set_option maxRecDepth 20000 in
theorem lm_X2_gather : Lm md_X2_gather 4 := ⟨lw_mem 115 (by decide +kernel) (by decide +kernel), lw_mem 1317 rfl rfl, by decide +kernel, by decide⟩
theorem lv_X2_gather : LmV md_X2_gather := ⟨lw_mem 1315 (by decide +kernel) (by decide +kernel), lw_mem 1316 (by decide +kernel) (by decide +kernel)⟩
abbrev md_X2_gatherOf : MD := (RX2, yX2_gatherOf, cX2_gatherOf, 6, (some .int), 0)
set_option maxRecDepth 20000 in
theorem lm_X2_gatherOf : Lm md_X2_gatherOf 4 := ⟨lw_mem 115 (by decide +kernel) (by decide +kernel), lw_mem 1320 rfl rfl, by decide +kernel, by decide⟩
theorem ls_X2_gatherOf : LmS md_X2_gatherOf := lw_mem 1319 (by decide +kernel) (by decide +kernel)
abbrev md_X2_tryAll : MD := (RX2, yX2_tryAll, cX2_tryAll, 7, none, 0)
set_option maxRecDepth 20000 in
theorem lm_X2_tryAll : Lm md_X2_tryAll 3 := ⟨lw_mem 115 (by decide +kernel) (by decide +kernel), lw_mem 1325 rfl rfl, by decide +kernel, by decide⟩
theorem lv_X2_tryAll : LmV md_X2_tryAll := ⟨lw_mem 1323 (by decide +kernel) (by decide +kernel), lw_mem 1324 (by decide +kernel) (by decide +kernel)⟩
abbrev md_X2_bit : MD := (RX2, yX2_bit, cX2_bit, 1, (some .int), 0)
set_option maxRecDepth 20000 in
theorem lm_X2_bit : Lm md_X2_bit 1 := ⟨lw_mem 115 (by decide +kernel) (by decide +kernel), lw_mem 1330 rfl rfl, by decide +kernel, by decide⟩
theorem ls_X2_bit : LmS md_X2_bit := lw_mem 1329 (by decide +kernel) (by decide +kernel)
abbrev md_X2_isResting : MD := (RX2, yX2_isResting, cX2_isResting, 6, (some .boolean), 0)
set_option maxRecDepth 20000 in
theorem lm_X2_isResting : Lm md_X2_isResting 2 := ⟨lw_mem 115 (by decide +kernel) (by decide +kernel), lw_mem 1341 rfl rfl, by decide +kernel, by decide⟩
theorem lv_X2_isResting : LmV md_X2_isResting := ⟨lw_mem 1340 (by decide +kernel) (by decide +kernel), lw_mem 39 (by decide +kernel) (by decide +kernel)⟩
abbrev md_X2_resting : MD := (RX2, yX2_resting, cX2_resting, 4, (some .int), 0)
set_option maxRecDepth 20000 in
theorem lm_X2_resting : Lm md_X2_resting 0 := ⟨lw_mem 115 (by decide +kernel) (by decide +kernel), lw_mem 1337 rfl rfl, by decide +kernel, by decide⟩
theorem lv_X2_resting : LmV md_X2_resting := ⟨lw_mem 1335 (by decide +kernel) (by decide +kernel), lw_mem 1336 (by decide +kernel) (by decide +kernel)⟩
abbrev md_X2_firstResting : MD := (RX2, yX2_firstResting, cX2_firstResting, 3, (some .int), 0)
set_option maxRecDepth 20000 in
theorem lm_X2_firstResting : Lm md_X2_firstResting 0 := ⟨lw_mem 115 (by decide +kernel) (by decide +kernel), lw_mem 1345 rfl rfl, by decide +kernel, by decide⟩
theorem lv_X2_firstResting : LmV md_X2_firstResting := ⟨lw_mem 1343 (by decide +kernel) (by decide +kernel), lw_mem 1344 (by decide +kernel) (by decide +kernel)⟩
abbrev md_X3_add : MD := (RX3, yX3_add, cX3_add, 3, none, 0)
set_option maxRecDepth 20000 in
theorem lm_X3_add : Lm md_X3_add 2 := ⟨lw_mem 112 (by decide +kernel) (by decide +kernel), lw_mem 743 rfl rfl, by decide +kernel, by decide⟩
theorem lv_X3_add : LmV md_X3_add := ⟨lw_mem 741 (by decide +kernel) (by decide +kernel), lw_mem 742 (by decide +kernel) (by decide +kernel)⟩
abbrev md_X3_furthest : MD := (RX3, yX3_furthest, cX3_furthest, 3, (some .int), 0)
set_option maxRecDepth 20000 in
theorem lm_X3_furthest : Lm md_X3_furthest 0 := ⟨lw_mem 112 (by decide +kernel) (by decide +kernel), lw_mem 1288 rfl rfl, by decide +kernel, by decide⟩
theorem lv_X3_furthest : LmV md_X3_furthest := ⟨lw_mem 1286 (by decide +kernel) (by decide +kernel), lw_mem 1287 (by decide +kernel) (by decide +kernel)⟩
abbrev md_X3_allIn : MD := (RX3, yX3_allIn, cX3_allIn, 3, (some .boolean), 0)
set_option maxRecDepth 20000 in
theorem lm_X3_allIn : Lm md_X3_allIn 1 := ⟨lw_mem 112 (by decide +kernel) (by decide +kernel), lw_mem 1293 rfl rfl, by decide +kernel, by decide⟩
theorem lv_X3_allIn : LmV md_X3_allIn := ⟨lw_mem 1291 (by decide +kernel) (by decide +kernel), lw_mem 1292 (by decide +kernel) (by decide +kernel)⟩
abbrev md_X3_copy : MD := (RX3, yX3_copy, cX3_copy, 2, none, 0)
set_option maxRecDepth 20000 in
theorem lm_X3_copy : Lm md_X3_copy 1 := ⟨lw_mem 112 (by decide +kernel) (by decide +kernel), lw_mem 770 rfl rfl, by decide +kernel, by decide⟩
theorem lv_X3_copy : LmV md_X3_copy := ⟨lw_mem 768 (by decide +kernel) (by decide +kernel), lw_mem 769 (by decide +kernel) (by decide +kernel)⟩
abbrev md_X5_begin : MD := (RX5, yX5_begin, cX5_begin, 3, none, 0)
set_option maxRecDepth 20000 in
theorem lm_X5_begin : Lm md_X5_begin 1 := ⟨lw_mem 110 (by decide +kernel) (by decide +kernel), lw_mem 1069 rfl rfl, by decide +kernel, by decide⟩
theorem lv_X5_begin : LmV md_X5_begin := ⟨lw_mem 1067 (by decide +kernel) (by decide +kernel), lw_mem 1068 (by decide +kernel) (by decide +kernel)⟩
abbrev md_X5_copyTune : MD := (RX5, yX5_copyTune, cX5_copyTune, 2, none, 0)
set_option maxRecDepth 20000 in
theorem lm_X5_copyTune : Lm md_X5_copyTune 1 := ⟨lw_mem 110 (by decide +kernel) (by decide +kernel), lw_mem 687 rfl rfl, by decide +kernel, by decide⟩
theorem lv_X5_copyTune : LmV md_X5_copyTune := ⟨lw_mem 685 (by decide +kernel) (by decide +kernel), lw_mem 686 (by decide +kernel) (by decide +kernel)⟩
abbrev md_X5_copyRest : MD := (RX5, yX5_copyRest, cX5_copyRest, 2, none, 0)
set_option maxRecDepth 20000 in
theorem lm_X5_copyRest : Lm md_X5_copyRest 1 := ⟨lw_mem 110 (by decide +kernel) (by decide +kernel), lw_mem 714 rfl rfl, by decide +kernel, by decide⟩
theorem lv_X5_copyRest : LmV md_X5_copyRest := ⟨lw_mem 712 (by decide +kernel) (by decide +kernel), lw_mem 713 (by decide +kernel) (by decide +kernel)⟩
abbrev md_X5_passYear : MD := (RX5, yX5_passYear, cX5_passYear, 4, none, 0)
set_option maxRecDepth 20000 in
theorem lm_X5_passYear : Lm md_X5_passYear 1 := ⟨lw_mem 110 (by decide +kernel) (by decide +kernel), lw_mem 568 rfl rfl, by decide +kernel, by decide⟩
theorem lv_X5_passYear : LmV md_X5_passYear := ⟨lw_mem 566 (by decide +kernel) (by decide +kernel), lw_mem 567 (by decide +kernel) (by decide +kernel)⟩
abbrev md_X5_passYearsTo : MD := (RX5, yX5_passYearsTo, cX5_passYearsTo, 4, none, 0)
set_option maxRecDepth 20000 in
theorem lm_X5_passYearsTo : Lm md_X5_passYearsTo 2 := ⟨lw_mem 110 (by decide +kernel) (by decide +kernel), lw_mem 1253 rfl rfl, by decide +kernel, by decide⟩
theorem lv_X5_passYearsTo : LmV md_X5_passYearsTo := ⟨lw_mem 1251 (by decide +kernel) (by decide +kernel), lw_mem 1252 (by decide +kernel) (by decide +kernel)⟩
abbrev md_X5_add : MD := (RX5, yX5_add, cX5_add, 3, none, 0)
set_option maxRecDepth 20000 in
theorem lm_X5_add : Lm md_X5_add 2 := ⟨lw_mem 110 (by decide +kernel) (by decide +kernel), lw_mem 597 rfl rfl, by decide +kernel, by decide⟩
theorem lv_X5_add : LmV md_X5_add := ⟨lw_mem 596 (by decide +kernel) (by decide +kernel), lw_mem 2 (by decide +kernel) (by decide +kernel)⟩
abbrev md_X5_nextSign : MD := (RX5, yX5_nextSign, cX5_nextSign, 4, (some .int), 0)
set_option maxRecDepth 20000 in
theorem lm_X5_nextSign : Lm md_X5_nextSign 2 := ⟨lw_mem 110 (by decide +kernel) (by decide +kernel), lw_mem 575 rfl rfl, by decide +kernel, by decide⟩
theorem lv_X5_nextSign : LmV md_X5_nextSign := ⟨lw_mem 574 (by decide +kernel) (by decide +kernel), lw_mem 1 (by decide +kernel) (by decide +kernel)⟩
abbrev md_X5_valueOf : MD := (RX5, yX5_valueOf, cX5_valueOf, 4, (some .int), 0)
set_option maxRecDepth 20000 in
theorem lm_X5_valueOf : Lm md_X5_valueOf 3 := ⟨lw_mem 110 (by decide +kernel) (by decide +kernel), lw_mem 587 rfl rfl, by decide +kernel, by decide⟩
theorem lv_X5_valueOf : LmV md_X5_valueOf := ⟨lw_mem 585 (by decide +kernel) (by decide +kernel), lw_mem 586 (by decide +kernel) (by decide +kernel)⟩
abbrev md_X5_mayMarry : MD := (RX5, yX5_mayMarry, cX5_mayMarry, 4, (some .boolean), 0)
set_option maxRecDepth 20000 in
theorem lm_X5_mayMarry : Lm md_X5_mayMarry 2 := ⟨lw_mem 110 (by decide +kernel) (by decide +kernel), lw_mem 735 rfl rfl, by decide +kernel, by decide⟩
theorem lv_X5_mayMarry : LmV md_X5_mayMarry := ⟨lw_mem 733 (by decide +kernel) (by decide +kernel), lw_mem 734 (by decide +kernel) (by decide +kernel)⟩
abbrev md_X5_wed : MD := (RX5, yX5_wed, cX5_wed, 3, none, 0)
set_option maxRecDepth 20000 in
theorem lm_X5_wed : Lm md_X5_wed 2 := ⟨lw_mem 110 (by decide +kernel) (by decide +kernel), lw_mem 727 rfl rfl, by decide +kernel, by decide⟩
theorem lv_X5_wed : LmV md_X5_wed := ⟨lw_mem 725 (by decide +kernel) (by decide +kernel), lw_mem 726 (by decide +kernel) (by decide +kernel)⟩
abbrev md_X5_part : MD := (RX5, yX5_part, cX5_part, 4, none, 0)
set_option maxRecDepth 20000 in
theorem lm_X5_part : Lm md_X5_part 3 := ⟨lw_mem 110 (by decide +kernel) (by decide +kernel), lw_mem 646 rfl rfl, by decide +kernel, by decide⟩
theorem lv_X5_part : LmV md_X5_part := ⟨lw_mem 645 (by decide +kernel) (by decide +kernel), lw_mem 5 (by decide +kernel) (by decide +kernel)⟩
abbrev md_X5_befall : MD := (RX5, yX5_befall, cX5_befall, 3, none, 0)
set_option maxRecDepth 20000 in
theorem lm_X5_befall : Lm md_X5_befall 2 := ⟨lw_mem 110 (by decide +kernel) (by decide +kernel), lw_mem 1363 rfl rfl, by decide +kernel, by decide⟩
theorem lv_X5_befall : LmV md_X5_befall := ⟨lw_mem 1361 (by decide +kernel) (by decide +kernel), lw_mem 1362 (by decide +kernel) (by decide +kernel)⟩
abbrev md_X5_takeBack : MD := (RX5, yX5_takeBack, cX5_takeBack, 5, none, 0)
set_option maxRecDepth 20000 in
theorem lm_X5_takeBack : Lm md_X5_takeBack 2 := ⟨lw_mem 110 (by decide +kernel) (by decide +kernel), lw_mem 618 rfl rfl, by decide +kernel, by decide⟩
theorem lv_X5_takeBack : LmV md_X5_takeBack := ⟨lw_mem 616 (by decide +kernel) (by decide +kernel), lw_mem 617 (by decide +kernel) (by decide +kernel)⟩
abbrev md_X5_cut : MD := (RX5, yX5_cut, cX5_cut, 4, none, 0)
set_option maxRecDepth 20000 in
theorem lm_X5_cut : Lm md_X5_cut 2 := ⟨lw_mem 110 (by decide +kernel) (by decide +kernel), lw_mem 638 rfl rfl, by decide +kernel, by decide⟩
theorem lv_X5_cut : LmV md_X5_cut := ⟨lw_mem 637 (by decide +kernel) (by decide +kernel), lw_mem 4 (by decide +kernel) (by decide +kernel)⟩
abbrev md_X5_rests : MD := (RX5, yX5_rests, cX5_rests, 1, (some .int), 0)
set_option maxRecDepth 20000 in
theorem lm_X5_rests : Lm md_X5_rests 0 := ⟨lw_mem 110 (by decide +kernel) (by decide +kernel), lw_mem 1081 rfl rfl, by decide +kernel, by decide⟩
theorem lv_X5_rests : LmV md_X5_rests := ⟨lw_mem 1079 (by decide +kernel) (by decide +kernel), lw_mem 1080 (by decide +kernel) (by decide +kernel)⟩
abbrev md_X5_times : MD := (RX5, yX5_times, cX5_times, 5, (some .int), 0)
set_option maxRecDepth 20000 in
theorem lm_X5_times : Lm md_X5_times 2 := ⟨lw_mem 110 (by decide +kernel) (by decide +kernel), lw_mem 679 rfl rfl, by decide +kernel, by decide⟩
theorem lv_X5_times : LmV md_X5_times := ⟨lw_mem 677 (by decide +kernel) (by decide +kernel), lw_mem 678 (by decide +kernel) (by decide +kernel)⟩
abbrev md_X5_risesFrom : MD := (RX5, yX5_risesFrom, cX5_risesFrom, 6, (some .int), 0)
set_option maxRecDepth 20000 in
theorem lm_X5_risesFrom : Lm md_X5_risesFrom 2 := ⟨lw_mem 110 (by decide +kernel) (by decide +kernel), lw_mem 659 rfl rfl, by decide +kernel, by decide⟩
theorem lv_X5_risesFrom : LmV md_X5_risesFrom := ⟨lw_mem 657 (by decide +kernel) (by decide +kernel), lw_mem 658 (by decide +kernel) (by decide +kernel)⟩
abbrev md_X5_hasAt : MD := (RX5, yX5_hasAt, cX5_hasAt, 5, (some .boolean), 0)
set_option maxRecDepth 20000 in
theorem lm_X5_hasAt : Lm md_X5_hasAt 3 := ⟨lw_mem 110 (by decide +kernel) (by decide +kernel), lw_mem 1194 rfl rfl, by decide +kernel, by decide⟩
theorem lv_X5_hasAt : LmV md_X5_hasAt := ⟨lw_mem 1192 (by decide +kernel) (by decide +kernel), lw_mem 1193 (by decide +kernel) (by decide +kernel)⟩
abbrev md_X5_firstFrom : MD := (RX5, yX5_firstFrom, cX5_firstFrom, 5, (some .int), 0)
set_option maxRecDepth 20000 in
theorem lm_X5_firstFrom : Lm md_X5_firstFrom 3 := ⟨lw_mem 110 (by decide +kernel) (by decide +kernel), lw_mem 1190 rfl rfl, by decide +kernel, by decide⟩
theorem lv_X5_firstFrom : LmV md_X5_firstFrom := ⟨lw_mem 1188 (by decide +kernel) (by decide +kernel), lw_mem 1189 (by decide +kernel) (by decide +kernel)⟩
abbrev md_X5_mirrored : MD := (RX5, yX5_mirrored, cX5_mirrored, 5, (some .int), 0)
set_option maxRecDepth 20000 in
theorem lm_X5_mirrored : Lm md_X5_mirrored 2 := ⟨lw_mem 110 (by decide +kernel) (by decide +kernel), lw_mem 670 rfl rfl, by decide +kernel, by decide⟩
theorem lv_X5_mirrored : LmV md_X5_mirrored := ⟨lw_mem 668 (by decide +kernel) (by decide +kernel), lw_mem 669 (by decide +kernel) (by decide +kernel)⟩
abbrev md_X6_whole : MD := (RX6, yX6_whole, cX6_whole, 3, (some .int), 0)
set_option maxRecDepth 20000 in
theorem lm_X6_whole : Lm md_X6_whole 2 := ⟨lw_mem 114 (by decide +kernel) (by decide +kernel), lw_mem 696 rfl rfl, by decide +kernel, by decide⟩
theorem lv_X6_whole : LmV md_X6_whole := ⟨lw_mem 694 (by decide +kernel) (by decide +kernel), lw_mem 695 (by decide +kernel) (by decide +kernel)⟩
abbrev md_X6_keep : MD := (RX6, yX6_keep, cX6_keep, 3, none, 0)
set_option maxRecDepth 20000 in
theorem lm_X6_keep : Lm md_X6_keep 2 := ⟨lw_mem 114 (by decide +kernel) (by decide +kernel), lw_mem 692 rfl rfl, by decide +kernel, by decide⟩
theorem lv_X6_keep : LmV md_X6_keep := ⟨lw_mem 690 (by decide +kernel) (by decide +kernel), lw_mem 691 (by decide +kernel) (by decide +kernel)⟩
abbrev md_X6_further : MD := (RX6, yX6_further, cX6_further, 4, (some .int), 0)
set_option maxRecDepth 20000 in
theorem lm_X6_further : Lm md_X6_further 3 := ⟨lw_mem 114 (by decide +kernel) (by decide +kernel), lw_mem 731 rfl rfl, by decide +kernel, by decide⟩
theorem lv_X6_further : LmV md_X6_further := ⟨lw_mem 729 (by decide +kernel) (by decide +kernel), lw_mem 730 (by decide +kernel) (by decide +kernel)⟩
abbrev md_X6_clear : MD := (RX6, yX6_clear, cX6_clear, 2, none, 0)
set_option maxRecDepth 20000 in
theorem lm_X6_clear : Lm md_X6_clear 0 := ⟨lw_mem 114 (by decide +kernel) (by decide +kernel), lw_mem 700 rfl rfl, by decide +kernel, by decide⟩
theorem lv_X6_clear : LmV md_X6_clear := ⟨lw_mem 699 (by decide +kernel) (by decide +kernel), lw_mem 6 (by decide +kernel) (by decide +kernel)⟩
abbrev md_X6_takeFrom : MD := (RX6, yX6_takeFrom, cX6_takeFrom, 9, none, 0)
set_option maxRecDepth 20000 in
theorem lm_X6_takeFrom : Lm md_X6_takeFrom 3 := ⟨lw_mem 114 (by decide +kernel) (by decide +kernel), lw_mem 704 rfl rfl, by decide +kernel, by decide⟩
theorem lv_X6_takeFrom : LmV md_X6_takeFrom := ⟨lw_mem 703 (by decide +kernel) (by decide +kernel), lw_mem 7 (by decide +kernel) (by decide +kernel)⟩
abbrev md_X6_apart : MD := (RX6, yX6_apart, cX6_apart, 8, (some .int), 0)
set_option maxRecDepth 20000 in
theorem lm_X6_apart : Lm md_X6_apart 2 := ⟨lw_mem 114 (by decide +kernel) (by decide +kernel), lw_mem 1241 rfl rfl, by decide +kernel, by decide⟩
theorem lv_X6_apart : LmV md_X6_apart := ⟨lw_mem 1239 (by decide +kernel) (by decide +kernel), lw_mem 1240 (by decide +kernel) (by decide +kernel)⟩
abbrev md_X7_read : MD := (RX7, yX7_read, cX7_read, 3, (some .int), 0)
set_option maxRecDepth 20000 in
theorem lm_X7_read : Lm md_X7_read 1 := ⟨lw_mem 105 (by decide +kernel) (by decide +kernel), lw_mem 854 rfl rfl, by decide +kernel, by decide⟩
theorem lv_X7_read : LmV md_X7_read := ⟨lw_mem 852 (by decide +kernel) (by decide +kernel), lw_mem 853 (by decide +kernel) (by decide +kernel)⟩
abbrev md_X7_refuse : MD := (RX7, yX7_refuse, cX7_refuse, 2, (some .boolean), 0)
set_option maxRecDepth 20000 in
theorem lm_X7_refuse : Lm md_X7_refuse 1 := ⟨lw_mem 105 (by decide +kernel) (by decide +kernel), lw_mem 974 rfl rfl, by decide +kernel, by decide⟩
theorem lv_X7_refuse : LmV md_X7_refuse := ⟨lw_mem 973 (by decide +kernel) (by decide +kernel), lw_mem 17 (by decide +kernel) (by decide +kernel)⟩
abbrev md_X7_readLine : MD := (RX7, yX7_readLine, cX7_readLine, 2, (some .boolean), 0)
set_option maxRecDepth 20000 in
theorem lm_X7_readLine : Lm md_X7_readLine 0 := ⟨lw_mem 105 (by decide +kernel) (by decide +kernel), lw_mem 966 rfl rfl, by decide +kernel, by decide⟩
theorem lv_X7_readLine : LmV md_X7_readLine := ⟨lw_mem 965 (by decide +kernel) (by decide +kernel), lw_mem 15 (by decide +kernel) (by decide +kernel)⟩
abbrev md_X7_readEnd : MD := (RX7, yX7_readEnd, cX7_readEnd, 1, (some .boolean), 0)
set_option maxRecDepth 20000 in
theorem lm_X7_readEnd : Lm md_X7_readEnd 0 := ⟨lw_mem 105 (by decide +kernel) (by decide +kernel), lw_mem 991 rfl rfl, by decide +kernel, by decide⟩
theorem lv_X7_readEnd : LmV md_X7_readEnd := ⟨lw_mem 990 (by decide +kernel) (by decide +kernel), lw_mem 19 (by decide +kernel) (by decide +kernel)⟩
abbrev md_X7_isNumber : MD := (RX7, yX7_isNumber, cX7_isNumber, 3, (some .boolean), 0)
set_option maxRecDepth 20000 in
theorem lm_X7_isNumber : Lm md_X7_isNumber 2 := ⟨lw_mem 105 (by decide +kernel) (by decide +kernel), lw_mem 979 rfl rfl, by decide +kernel, by decide⟩
theorem lv_X7_isNumber : LmV md_X7_isNumber := ⟨lw_mem 978 (by decide +kernel) (by decide +kernel), lw_mem 18 (by decide +kernel) (by decide +kernel)⟩
abbrev md_X7_readPerson : MD := (RX7, yX7_readPerson, cX7_readPerson, 4, (some .boolean), 0)
set_option maxRecDepth 20000 in
theorem lm_X7_readPerson : Lm md_X7_readPerson 1 := ⟨lw_mem 105 (by decide +kernel) (by decide +kernel), lw_mem 970 rfl rfl, by decide +kernel, by decide⟩
theorem lv_X7_readPerson : LmV md_X7_readPerson := ⟨lw_mem 969 (by decide +kernel) (by decide +kernel), lw_mem 16 (by decide +kernel) (by decide +kernel)⟩
abbrev md_X7_readKey : MD := (RX7, yX7_readKey, cX7_readKey, 1, (some .boolean), 0)
set_option maxRecDepth 20000 in
theorem lm_X7_readKey : Lm md_X7_readKey 0 := ⟨lw_mem 105 (by decide +kernel) (by decide +kernel), lw_mem 995 rfl rfl, by decide +kernel, by decide⟩
theorem lv_X7_readKey : LmV md_X7_readKey := ⟨lw_mem 994 (by decide +kernel) (by decide +kernel), lw_mem 20 (by decide +kernel) (by decide +kernel)⟩
abbrev md_X7_isToldPerson : MD := (RX7, yX7_isToldPerson, cX7_isToldPerson, 1, (some .boolean), 0)
set_option maxRecDepth 20000 in
theorem lm_X7_isToldPerson : Lm md_X7_isToldPerson 0 := ⟨lw_mem 105 (by decide +kernel) (by decide +kernel), lw_mem 1003 rfl rfl, by decide +kernel, by decide⟩
theorem lv_X7_isToldPerson : LmV md_X7_isToldPerson := ⟨lw_mem 1002 (by decide +kernel) (by decide +kernel), lw_mem 22 (by decide +kernel) (by decide +kernel)⟩
abbrev md_X7_readFeud : MD := (RX7, yX7_readFeud, cX7_readFeud, 3, (some .boolean), 0)
set_option maxRecDepth 20000 in
theorem lm_X7_readFeud : Lm md_X7_readFeud 0 := ⟨lw_mem 105 (by decide +kernel) (by decide +kernel), lw_mem 999 rfl rfl, by decide +kernel, by decide⟩
theorem lv_X7_readFeud : LmV md_X7_readFeud := ⟨lw_mem 998 (by decide +kernel) (by decide +kernel), lw_mem 21 (by decide +kernel) (by decide +kernel)⟩
abbrev md_X7_readOther : MD := (RX7, yX7_readOther, cX7_readOther, 2, (some .boolean), 0)
set_option maxRecDepth 20000 in
theorem lm_X7_readOther : Lm md_X7_readOther 0 := ⟨lw_mem 105 (by decide +kernel) (by decide +kernel), lw_mem 1009 rfl rfl, by decide +kernel, by decide⟩
theorem lv_X7_readOther : LmV md_X7_readOther := ⟨lw_mem 1008 (by decide +kernel) (by decide +kernel), lw_mem 23 (by decide +kernel) (by decide +kernel)⟩
abbrev md_X7_readSings : MD := (RX7, yX7_readSings, cX7_readSings, 5, (some .boolean), 0)
set_option maxRecDepth 20000 in
theorem lm_X7_readSings : Lm md_X7_readSings 0 := ⟨lw_mem 105 (by decide +kernel) (by decide +kernel), lw_mem 1013 rfl rfl, by decide +kernel, by decide⟩
theorem lv_X7_readSings : LmV md_X7_readSings := ⟨lw_mem 1012 (by decide +kernel) (by decide +kernel), lw_mem 24 (by decide +kernel) (by decide +kernel)⟩
abbrev md_X7_isRuleEnd : MD := (RX7, yX7_isRuleEnd, cX7_isRuleEnd, 1, (some .boolean), 0)
set_option maxRecDepth 20000 in
theorem lm_X7_isRuleEnd : Lm md_X7_isRuleEnd 0 := ⟨lw_mem 105 (by decide +kernel) (by decide +kernel), lw_mem 1017 rfl rfl, by decide +kernel, by decide⟩
theorem lv_X7_isRuleEnd : LmV md_X7_isRuleEnd := ⟨lw_mem 1016 (by decide +kernel) (by decide +kernel), lw_mem 25 (by decide +kernel) (by decide +kernel)⟩
abbrev md_X7_lastOpen : MD := (RX7, yX7_lastOpen, cX7_lastOpen, 1, (some .int), 0)
set_option maxRecDepth 20000 in
theorem lm_X7_lastOpen : Lm md_X7_lastOpen 0 := ⟨lw_mem 105 (by decide +kernel) (by decide +kernel), lw_mem 1029 rfl rfl, by decide +kernel, by decide⟩
theorem lv_X7_lastOpen : LmV md_X7_lastOpen := ⟨lw_mem 1028 (by decide +kernel) (by decide +kernel), lw_mem 27 (by decide +kernel) (by decide +kernel)⟩
abbrev md_X7_pushOpen : MD := (RX7, yX7_pushOpen, cX7_pushOpen, 2, none, 0)
set_option maxRecDepth 20000 in
theorem lm_X7_pushOpen : Lm md_X7_pushOpen 1 := ⟨lw_mem 105 (by decide +kernel) (by decide +kernel), lw_mem 1037 rfl rfl, by decide +kernel, by decide⟩
theorem lv_X7_pushOpen : LmV md_X7_pushOpen := ⟨lw_mem 1036 (by decide +kernel) (by decide +kernel), lw_mem 28 (by decide +kernel) (by decide +kernel)⟩
abbrev md_X7_takePart : MD := (RX7, yX7_takePart, cX7_takePart, 2, (some .boolean), 0)
set_option maxRecDepth 20000 in
theorem lm_X7_takePart : Lm md_X7_takePart 0 := ⟨lw_mem 105 (by decide +kernel) (by decide +kernel), lw_mem 1021 rfl rfl, by decide +kernel, by decide⟩
theorem lv_X7_takePart : LmV md_X7_takePart := ⟨lw_mem 1020 (by decide +kernel) (by decide +kernel), lw_mem 26 (by decide +kernel) (by decide +kernel)⟩
abbrev md_X7_mayBeNot : MD := (RX7, yX7_mayBeNot, cX7_mayBeNot, 2, (some .boolean), 0)
set_option maxRecDepth 20000 in
theorem lm_X7_mayBeNot : Lm md_X7_mayBeNot 0 := ⟨lw_mem 105 (by decide +kernel) (by decide +kernel), lw_mem 1041 rfl rfl, by decide +kernel, by decide⟩
theorem lv_X7_mayBeNot : LmV md_X7_mayBeNot := ⟨lw_mem 1040 (by decide +kernel) (by decide +kernel), lw_mem 29 (by decide +kernel) (by decide +kernel)⟩
abbrev md_X7_takeNot : MD := (RX7, yX7_takeNot, cX7_takeNot, 3, (some .boolean), 0)
set_option maxRecDepth 20000 in
theorem lm_X7_takeNot : Lm md_X7_takeNot 0 := ⟨lw_mem 105 (by decide +kernel) (by decide +kernel), lw_mem 1045 rfl rfl, by decide +kernel, by decide⟩
theorem lv_X7_takeNot : LmV md_X7_takeNot := ⟨lw_mem 1044 (by decide +kernel) (by decide +kernel), lw_mem 30 (by decide +kernel) (by decide +kernel)⟩
abbrev md_X7_takeOperator : MD := (RX7, yX7_takeOperator, cX7_takeOperator, 4, (some .boolean), 0)
set_option maxRecDepth 20000 in
theorem lm_X7_takeOperator : Lm md_X7_takeOperator 0 := ⟨lw_mem 105 (by decide +kernel) (by decide +kernel), lw_mem 1049 rfl rfl, by decide +kernel, by decide⟩
theorem lv_X7_takeOperator : LmV md_X7_takeOperator := ⟨lw_mem 1048 (by decide +kernel) (by decide +kernel), lw_mem 31 (by decide +kernel) (by decide +kernel)⟩
abbrev md_X7_closeDownTo : MD := (RX7, yX7_closeDownTo, cX7_closeDownTo, 2, none, 0)
set_option maxRecDepth 20000 in
theorem lm_X7_closeDownTo : Lm md_X7_closeDownTo 1 := ⟨lw_mem 105 (by decide +kernel) (by decide +kernel), lw_mem 1053 rfl rfl, by decide +kernel, by decide⟩
theorem lv_X7_closeDownTo : LmV md_X7_closeDownTo := ⟨lw_mem 1052 (by decide +kernel) (by decide +kernel), lw_mem 32 (by decide +kernel) (by decide +kernel)⟩
abbrev md_X7_binding : MD := (RX7, yX7_binding, cX7_binding, 1, (some .int), 0)
set_option maxRecDepth 20000 in
theorem lm_X7_binding : Lm md_X7_binding 1 := ⟨lw_mem 105 (by decide +kernel) (by decide +kernel), lw_mem 1056 rfl rfl, by decide +kernel, by decide⟩
theorem ls_X7_binding : LmS md_X7_binding := lw_mem 1055 (by decide +kernel) (by decide +kernel)
abbrev md_X8_put : MD := (RX8, yX8_put, cX8_put, 2, (some .boolean), 0)
set_option maxRecDepth 20000 in
theorem lm_X8_put : Lm md_X8_put 1 := ⟨lw_mem 108 (by decide +kernel) (by decide +kernel), lw_mem 1033 rfl rfl, by decide +kernel, by decide⟩
theorem lv_X8_put : LmV md_X8_put := ⟨lw_mem 1031 (by decide +kernel) (by decide +kernel), lw_mem 1032 (by decide +kernel) (by decide +kernel)⟩
abbrev md_X8_worth : MD := (RX8, yX8_worth, cX8_worth, 7, (some .int), 0)
set_option maxRecDepth 20000 in
theorem lm_X8_worth : Lm md_X8_worth 3 := ⟨lw_mem 108 (by decide +kernel) (by decide +kernel), lw_mem 583 rfl rfl, by decide +kernel, by decide⟩
theorem lv_X8_worth : LmV md_X8_worth := ⟨lw_mem 581 (by decide +kernel) (by decide +kernel), lw_mem 582 (by decide +kernel) (by decide +kernel)⟩
abbrev md_X8_apply : MD := (RX8, yX8_apply, cX8_apply, 3, (some .int), 0)
set_option maxRecDepth 20000 in
theorem lm_X8_apply : Lm md_X8_apply 3 := ⟨lw_mem 108 (by decide +kernel) (by decide +kernel), lw_mem 590 rfl rfl, by decide +kernel, by decide⟩
theorem ls_X8_apply : LmS md_X8_apply := lw_mem 589 (by decide +kernel) (by decide +kernel)
abbrev md_X9_addFour : MD := (RX9, yX9_addFour, cX9_addFour, 3, none, 0)
set_option maxRecDepth 20000 in
theorem lm_X9_addFour : Lm md_X9_addFour 1 := ⟨lw_mem 109 (by decide +kernel) (by decide +kernel), lw_mem 545 rfl rfl, by decide +kernel, by decide⟩
theorem lv_X9_addFour : LmV md_X9_addFour := ⟨lw_mem 543 (by decide +kernel) (by decide +kernel), lw_mem 544 (by decide +kernel) (by decide +kernel)⟩
abbrev md_X9_begin : MD := (RX9, yX9_begin, cX9_begin, 2, none, 0)
set_option maxRecDepth 20000 in
theorem lm_X9_begin : Lm md_X9_begin 1 := ⟨lw_mem 109 (by decide +kernel) (by decide +kernel), lw_mem 862 rfl rfl, by decide +kernel, by decide⟩
theorem lv_X9_begin : LmV md_X9_begin := ⟨lw_mem 860 (by decide +kernel) (by decide +kernel), lw_mem 861 (by decide +kernel) (by decide +kernel)⟩
abbrev md_X9_next : MD := (RX9, yX9_next, cX9_next, 1, none, 0)
set_option maxRecDepth 20000 in
theorem lm_X9_next : Lm md_X9_next 0 := ⟨lw_mem 109 (by decide +kernel) (by decide +kernel), lw_mem 869 rfl rfl, by decide +kernel, by decide⟩
theorem lv_X9_next : LmV md_X9_next := ⟨lw_mem 867 (by decide +kernel) (by decide +kernel), lw_mem 868 (by decide +kernel) (by decide +kernel)⟩
abbrev md_X9_isWord : MD := (RX9, yX9_isWord, cX9_isWord, 1, (some .boolean), 0)
set_option maxRecDepth 20000 in
theorem lm_X9_isWord : Lm md_X9_isWord 0 := ⟨lw_mem 109 (by decide +kernel) (by decide +kernel), lw_mem 1025 rfl rfl, by decide +kernel, by decide⟩
theorem lv_X9_isWord : LmV md_X9_isWord := ⟨lw_mem 1023 (by decide +kernel) (by decide +kernel), lw_mem 1024 (by decide +kernel) (by decide +kernel)⟩
abbrev md_X9_isBlank : MD := (RX9, yX9_isBlank, cX9_isBlank, 1, (some .boolean), 0)
set_option maxRecDepth 20000 in
theorem lm_X9_isBlank : Lm md_X9_isBlank 1 := ⟨lw_mem 109 (by decide +kernel) (by decide +kernel), lw_mem 872 rfl rfl, by decide +kernel, by decide⟩
theorem ls_X9_isBlank : LmS md_X9_isBlank := lw_mem 871 (by decide +kernel) (by decide +kernel)
abbrev md_X9_isLetter : MD := (RX9, yX9_isLetter, cX9_isLetter, 1, (some .boolean), 0)
set_option maxRecDepth 20000 in
theorem lm_X9_isLetter : Lm md_X9_isLetter 1 := ⟨lw_mem 109 (by decide +kernel) (by decide +kernel), lw_mem 875 rfl rfl, by decide +kernel, by decide⟩
theorem ls_X9_isLetter : LmS md_X9_isLetter := lw_mem 874 (by decide +kernel) (by decide +kernel)
abbrev md_X9_isDigit : MD := (RX9, yX9_isDigit, cX9_isDigit, 1, (some .boolean), 0)
set_option maxRecDepth 20000 in
theorem lm_X9_isDigit : Lm md_X9_isDigit 1 := ⟨lw_mem 109 (by decide +kernel) (by decide +kernel), lw_mem 955 rfl rfl, by decide +kernel, by decide⟩
theorem ls_X9_isDigit : LmS md_X9_isDigit := lw_mem 954 (by decide +kernel) (by decide +kernel)
abbrev md_X9_isSign : MD := (RX9, yX9_isSign, cX9_isSign, 1, (some .boolean), 0)
set_option maxRecDepth 20000 in
theorem lm_X9_isSign : Lm md_X9_isSign 1 := ⟨lw_mem 109 (by decide +kernel) (by decide +kernel), lw_mem 962 rfl rfl, by decide +kernel, by decide⟩
theorem ls_X9_isSign : LmS md_X9_isSign := lw_mem 961 (by decide +kernel) (by decide +kernel)
abbrev md_X9_readNumber : MD := (RX9, yX9_readNumber, cX9_readNumber, 1, none, 0)
set_option maxRecDepth 20000 in
theorem lm_X9_readNumber : Lm md_X9_readNumber 0 := ⟨lw_mem 109 (by decide +kernel) (by decide +kernel), lw_mem 959 rfl rfl, by decide +kernel, by decide⟩
theorem lv_X9_readNumber : LmV md_X9_readNumber := ⟨lw_mem 958 (by decide +kernel) (by decide +kernel), lw_mem 14 (by decide +kernel) (by decide +kernel)⟩
abbrev md_X9_passLetters : MD := (RX9, yX9_passLetters, cX9_passLetters, 1, none, 0)
set_option maxRecDepth 20000 in
theorem lm_X9_passLetters : Lm md_X9_passLetters 0 := ⟨lw_mem 109 (by decide +kernel) (by decide +kernel), lw_mem 879 rfl rfl, by decide +kernel, by decide⟩
theorem lv_X9_passLetters : LmV md_X9_passLetters := ⟨lw_mem 878 (by decide +kernel) (by decide +kernel), lw_mem 11 (by decide +kernel) (by decide +kernel)⟩
abbrev md_X9_wordKind : MD := (RX9, yX9_wordKind, cX9_wordKind, 1, (some .int), 0)
set_option maxRecDepth 20000 in
theorem lm_X9_wordKind : Lm md_X9_wordKind 0 := ⟨lw_mem 109 (by decide +kernel) (by decide +kernel), lw_mem 883 rfl rfl, by decide +kernel, by decide⟩
theorem lv_X9_wordKind : LmV md_X9_wordKind := ⟨lw_mem 882 (by decide +kernel) (by decide +kernel), lw_mem 12 (by decide +kernel) (by decide +kernel)⟩
abbrev md_X9_spells : MD := (RX9, yX9_spells, cX9_spells, 3, (some .boolean), 0)
set_option maxRecDepth 20000 in
theorem lm_X9_spells : Lm md_X9_spells 1 := ⟨lw_mem 109 (by decide +kernel) (by decide +kernel), lw_mem 888 rfl rfl, by decide +kernel, by decide⟩
theorem lv_X9_spells : LmV md_X9_spells := ⟨lw_mem 887 (by decide +kernel) (by decide +kernel), lw_mem 13 (by decide +kernel) (by decide +kernel)⟩
abbrev md_X10_clear : MD := (RX10, yX10_clear, cX10_clear, 1, none, 0)
set_option maxRecDepth 20000 in
theorem lm_X10_clear : Lm md_X10_clear 0 := ⟨lw_mem 106 (by decide +kernel) (by decide +kernel), lw_mem 858 rfl rfl, by decide +kernel, by decide⟩
theorem lv_X10_clear : LmV md_X10_clear := ⟨lw_mem 856 (by decide +kernel) (by decide +kernel), lw_mem 857 (by decide +kernel) (by decide +kernel)⟩
abbrev md_X10_add : MD := (RX10, yX10_add, cX10_add, 5, none, 0)
set_option maxRecDepth 20000 in
theorem lm_X10_add : Lm md_X10_add 4 := ⟨lw_mem 106 (by decide +kernel) (by decide +kernel), lw_mem 987 rfl rfl, by decide +kernel, by decide⟩
theorem lv_X10_add : LmV md_X10_add := ⟨lw_mem 985 (by decide +kernel) (by decide +kernel), lw_mem 986 (by decide +kernel) (by decide +kernel)⟩
abbrev md_X10_hasBirthday : MD := (RX10, yX10_hasBirthday, cX10_hasBirthday, 3, (some .boolean), 0)
set_option maxRecDepth 20000 in
theorem lm_X10_hasBirthday : Lm md_X10_hasBirthday 1 := ⟨lw_mem 106 (by decide +kernel) (by decide +kernel), lw_mem 983 rfl rfl, by decide +kernel, by decide⟩
theorem lv_X10_hasBirthday : LmV md_X10_hasBirthday := ⟨lw_mem 981 (by decide +kernel) (by decide +kernel), lw_mem 982 (by decide +kernel) (by decide +kernel)⟩
abbrev md_X10_rank : MD := (RX10, yX10_rank, cX10_rank, 4, (some .int), 0)
set_option maxRecDepth 20000 in
theorem lm_X10_rank : Lm md_X10_rank 1 := ⟨lw_mem 106 (by decide +kernel) (by decide +kernel), lw_mem 1065 rfl rfl, by decide +kernel, by decide⟩
theorem lv_X10_rank : LmV md_X10_rank := ⟨lw_mem 1063 (by decide +kernel) (by decide +kernel), lw_mem 1064 (by decide +kernel) (by decide +kernel)⟩
abbrev md_X10_sortByBirthdays : MD := (RX10, yX10_sortByBirthdays, cX10_sortByBirthdays, 2, none, 0)
set_option maxRecDepth 20000 in
theorem lm_X10_sortByBirthdays : Lm md_X10_sortByBirthdays 0 := ⟨lw_mem 106 (by decide +kernel) (by decide +kernel), lw_mem 1061 rfl rfl, by decide +kernel, by decide⟩
theorem lv_X10_sortByBirthdays : LmV md_X10_sortByBirthdays := ⟨lw_mem 1059 (by decide +kernel) (by decide +kernel), lw_mem 1060 (by decide +kernel) (by decide +kernel)⟩
abbrev md_X11_feed : MD := (RX11, yX11_feed, cX11_feed, 6, (some .int), 0)
set_option maxRecDepth 20000 in
theorem lm_X11_feed : Lm md_X11_feed 5 := ⟨lw_mem 104 (by decide +kernel) (by decide +kernel), lw_mem 541 rfl rfl, by decide +kernel, by decide⟩
theorem lv_X11_feed : LmV md_X11_feed := ⟨lw_mem 539 (by decide +kernel) (by decide +kernel), lw_mem 540 (by decide +kernel) (by decide +kernel)⟩
abbrev md_X11_town : MD := (RX11, yX11_town, cX11_town, 4, (some .int), 1)
set_option maxRecDepth 20000 in
theorem lm_X11_town : Lm md_X11_town 1 := ⟨lw_mem 104 (by decide +kernel) (by decide +kernel), lw_mem 784 rfl rfl, by decide +kernel, by decide⟩
theorem lv_X11_town : LmV md_X11_town := ⟨lw_mem 782 (by decide +kernel) (by decide +kernel), lw_mem 783 (by decide +kernel) (by decide +kernel)⟩
abbrev md_X11_fault : MD := (RX11, yX11_fault, cX11_fault, 1, (some .int), 0)
set_option maxRecDepth 20000 in
theorem lm_X11_fault : Lm md_X11_fault 0 := ⟨lw_mem 104 (by decide +kernel) (by decide +kernel), lw_mem 549 rfl rfl, by decide +kernel, by decide⟩
theorem lv_X11_fault : LmV md_X11_fault := ⟨lw_mem 547 (by decide +kernel) (by decide +kernel), lw_mem 548 (by decide +kernel) (by decide +kernel)⟩
abbrev md_X11_count : MD := (RX11, yX11_count, cX11_count, 2, (some .int), 1)
set_option maxRecDepth 20000 in
theorem lm_X11_count : Lm md_X11_count 1 := ⟨lw_mem 104 (by decide +kernel) (by decide +kernel), lw_mem 1077 rfl rfl, by decide +kernel, by decide⟩
theorem lv_X11_count : LmV md_X11_count := ⟨lw_mem 1075 (by decide +kernel) (by decide +kernel), lw_mem 1076 (by decide +kernel) (by decide +kernel)⟩
abbrev md_X11_person : MD := (RX11, yX11_person, cX11_person, 3, (some .int), 2)
set_option maxRecDepth 20000 in
theorem lm_X11_person : Lm md_X11_person 2 := ⟨lw_mem 104 (by decide +kernel) (by decide +kernel), lw_mem 1105 rfl rfl, by decide +kernel, by decide⟩
theorem lv_X11_person : LmV md_X11_person := ⟨lw_mem 1103 (by decide +kernel) (by decide +kernel), lw_mem 1104 (by decide +kernel) (by decide +kernel)⟩
abbrev md_X11_isPerson : MD := (RX11, yX11_isPerson, cX11_isPerson, 2, (some .boolean), 0)
set_option maxRecDepth 20000 in
theorem lm_X11_isPerson : Lm md_X11_isPerson 1 := ⟨lw_mem 104 (by decide +kernel) (by decide +kernel), lw_mem 723 rfl rfl, by decide +kernel, by decide⟩
theorem lv_X11_isPerson : LmV md_X11_isPerson := ⟨lw_mem 722 (by decide +kernel) (by decide +kernel), lw_mem 9 (by decide +kernel) (by decide +kernel)⟩
abbrev md_X11_needPerson : MD := (RX11, yX11_needPerson, cX11_needPerson, 2, none, 1)
set_option maxRecDepth 20000 in
theorem lm_X11_needPerson : Lm md_X11_needPerson 1 := ⟨lw_mem 104 (by decide +kernel) (by decide +kernel), lw_mem 1109 rfl rfl, by decide +kernel, by decide⟩
theorem lv_X11_needPerson : LmV md_X11_needPerson := ⟨lw_mem 1108 (by decide +kernel) (by decide +kernel), lw_mem 33 (by decide +kernel) (by decide +kernel)⟩
abbrev md_X11_needWhat : MD := (RX11, yX11_needWhat, cX11_needWhat, 2, none, 1)
set_option maxRecDepth 20000 in
theorem lm_X11_needWhat : Lm md_X11_needWhat 2 := ⟨lw_mem 104 (by decide +kernel) (by decide +kernel), lw_mem 1126 rfl rfl, by decide +kernel, by decide⟩
theorem ls_X11_needWhat : LmS md_X11_needWhat := lw_mem 1125 (by decide +kernel) (by decide +kernel)
abbrev md_X11_feud : MD := (RX11, yX11_feud, cX11_feud, 3, (some .int), 2)
set_option maxRecDepth 20000 in
theorem lm_X11_feud : Lm md_X11_feud 2 := ⟨lw_mem 104 (by decide +kernel) (by decide +kernel), lw_mem 1123 rfl rfl, by decide +kernel, by decide⟩
theorem lv_X11_feud : LmV md_X11_feud := ⟨lw_mem 1121 (by decide +kernel) (by decide +kernel), lw_mem 1122 (by decide +kernel) (by decide +kernel)⟩
abbrev md_X11_sign : MD := (RX11, yX11_sign, cX11_sign, 3, (some .int), 2)
set_option maxRecDepth 20000 in
theorem lm_X11_sign : Lm md_X11_sign 2 := ⟨lw_mem 104 (by decide +kernel) (by decide +kernel), lw_mem 1135 rfl rfl, by decide +kernel, by decide⟩
theorem lv_X11_sign : LmV md_X11_sign := ⟨lw_mem 1133 (by decide +kernel) (by decide +kernel), lw_mem 1134 (by decide +kernel) (by decide +kernel)⟩
abbrev md_X11_other : MD := (RX11, yX11_other, cX11_other, 2, (some .int), 1)
set_option maxRecDepth 20000 in
theorem lm_X11_other : Lm md_X11_other 1 := ⟨lw_mem 104 (by decide +kernel) (by decide +kernel), lw_mem 1143 rfl rfl, by decide +kernel, by decide⟩
theorem lv_X11_other : LmV md_X11_other := ⟨lw_mem 1141 (by decide +kernel) (by decide +kernel), lw_mem 1142 (by decide +kernel) (by decide +kernel)⟩
abbrev md_X11_refuseAct : MD := (RX11, yX11_refuseAct, cX11_refuseAct, 1, none, 0)
set_option maxRecDepth 20000 in
theorem lm_X11_refuseAct : Lm md_X11_refuseAct 0 := ⟨lw_mem 104 (by decide +kernel) (by decide +kernel), lw_mem 557 rfl rfl, by decide +kernel, by decide⟩
theorem lv_X11_refuseAct : LmV md_X11_refuseAct := ⟨lw_mem 556 (by decide +kernel) (by decide +kernel), lw_mem 0 (by decide +kernel) (by decide +kernel)⟩
abbrev md_X11_years : MD := (RX11, yX11_years, cX11_years, 3, (some .int), 0)
set_option maxRecDepth 20000 in
theorem lm_X11_years : Lm md_X11_years 1 := ⟨lw_mem 104 (by decide +kernel) (by decide +kernel), lw_mem 553 rfl rfl, by decide +kernel, by decide⟩
theorem lv_X11_years : LmV md_X11_years := ⟨lw_mem 551 (by decide +kernel) (by decide +kernel), lw_mem 552 (by decide +kernel) (by decide +kernel)⟩
abbrev md_X11_away : MD := (RX11, yX11_away, cX11_away, 3, (some .boolean), 1)
set_option maxRecDepth 20000 in
theorem lm_X11_away : Lm md_X11_away 2 := ⟨lw_mem 104 (by decide +kernel) (by decide +kernel), lw_mem 1150 rfl rfl, by decide +kernel, by decide⟩
theorem lv_X11_away : LmV md_X11_away := ⟨lw_mem 1148 (by decide +kernel) (by decide +kernel), lw_mem 1149 (by decide +kernel) (by decide +kernel)⟩
abbrev md_X11_dies : MD := (RX11, yX11_dies, cX11_dies, 2, (some .boolean), 1)
set_option maxRecDepth 20000 in
theorem lm_X11_dies : Lm md_X11_dies 1 := ⟨lw_mem 104 (by decide +kernel) (by decide +kernel), lw_mem 1157 rfl rfl, by decide +kernel, by decide⟩
theorem lv_X11_dies : LmV md_X11_dies := ⟨lw_mem 1155 (by decide +kernel) (by decide +kernel), lw_mem 1156 (by decide +kernel) (by decide +kernel)⟩
abbrev md_X11_isIn : MD := (RX11, yX11_isIn, cX11_isIn, 2, (some .boolean), 0)
set_option maxRecDepth 20000 in
theorem lm_X11_isIn : Lm md_X11_isIn 2 := ⟨lw_mem 104 (by decide +kernel) (by decide +kernel), lw_mem 571 rfl rfl, by decide +kernel, by decide⟩
theorem ls_X11_isIn : LmS md_X11_isIn := lw_mem 570 (by decide +kernel) (by decide +kernel)
abbrev md_X11_marry : MD := (RX11, yX11_marry, cX11_marry, 3, (some .int), 2)
set_option maxRecDepth 20000 in
theorem lm_X11_marry : Lm md_X11_marry 2 := ⟨lw_mem 104 (by decide +kernel) (by decide +kernel), lw_mem 1164 rfl rfl, by decide +kernel, by decide⟩
theorem lv_X11_marry : LmV md_X11_marry := ⟨lw_mem 1162 (by decide +kernel) (by decide +kernel), lw_mem 1163 (by decide +kernel) (by decide +kernel)⟩
abbrev md_X11_quarrel : MD := (RX11, yX11_quarrel, cX11_quarrel, 4, (some .int), 2)
set_option maxRecDepth 20000 in
theorem lm_X11_quarrel : Lm md_X11_quarrel 2 := ⟨lw_mem 104 (by decide +kernel) (by decide +kernel), lw_mem 1171 rfl rfl, by decide +kernel, by decide⟩
theorem lv_X11_quarrel : LmV md_X11_quarrel := ⟨lw_mem 1169 (by decide +kernel) (by decide +kernel), lw_mem 1170 (by decide +kernel) (by decide +kernel)⟩
abbrev md_X11_peace : MD := (RX11, yX11_peace, cX11_peace, 3, (some .boolean), 0)
set_option maxRecDepth 20000 in
theorem lm_X11_peace : Lm md_X11_peace 1 := ⟨lw_mem 104 (by decide +kernel) (by decide +kernel), lw_mem 601 rfl rfl, by decide +kernel, by decide⟩
theorem lv_X11_peace : LmV md_X11_peace := ⟨lw_mem 599 (by decide +kernel) (by decide +kernel), lw_mem 600 (by decide +kernel) (by decide +kernel)⟩
abbrev md_X11_undo : MD := (RX11, yX11_undo, cX11_undo, 1, (some .int), 0)
set_option maxRecDepth 20000 in
theorem lm_X11_undo : Lm md_X11_undo 0 := ⟨lw_mem 104 (by decide +kernel) (by decide +kernel), lw_mem 614 rfl rfl, by decide +kernel, by decide⟩
theorem lv_X11_undo : LmV md_X11_undo := ⟨lw_mem 612 (by decide +kernel) (by decide +kernel), lw_mem 613 (by decide +kernel) (by decide +kernel)⟩
abbrev md_X11_found : MD := (RX11, yX11_found, cX11_found, 6, (some .int), 2)
set_option maxRecDepth 20000 in
theorem lm_X11_found : Lm md_X11_found 3 := ⟨lw_mem 104 (by decide +kernel) (by decide +kernel), lw_mem 1180 rfl rfl, by decide +kernel, by decide⟩
theorem lv_X11_found : LmV md_X11_found := ⟨lw_mem 1178 (by decide +kernel) (by decide +kernel), lw_mem 1179 (by decide +kernel) (by decide +kernel)⟩
abbrev md_X11_spell : MD := (RX11, yX11_spell, cX11_spell, 5, none, 1)
set_option maxRecDepth 20000 in
theorem lm_X11_spell : Lm md_X11_spell 2 := ⟨lw_mem 104 (by decide +kernel) (by decide +kernel), lw_mem 1184 rfl rfl, by decide +kernel, by decide⟩
theorem lv_X11_spell : LmV md_X11_spell := ⟨lw_mem 1183 (by decide +kernel) (by decide +kernel), lw_mem 34 (by decide +kernel) (by decide +kernel)⟩
abbrev md_X11_again : MD := (RX11, yX11_again, cX11_again, 6, (some .int), 1)
set_option maxRecDepth 20000 in
theorem lm_X11_again : Lm md_X11_again 1 := ⟨lw_mem 104 (by decide +kernel) (by decide +kernel), lw_mem 1202 rfl rfl, by decide +kernel, by decide⟩
theorem lv_X11_again : LmV md_X11_again := ⟨lw_mem 1200 (by decide +kernel) (by decide +kernel), lw_mem 1201 (by decide +kernel) (by decide +kernel)⟩
abbrev md_X11_meetLater : MD := (RX11, yX11_meetLater, cX11_meetLater, 5, (some .int), 0)
set_option maxRecDepth 20000 in
theorem lm_X11_meetLater : Lm md_X11_meetLater 1 := ⟨lw_mem 104 (by decide +kernel) (by decide +kernel), lw_mem 1206 rfl rfl, by decide +kernel, by decide⟩
theorem lv_X11_meetLater : LmV md_X11_meetLater := ⟨lw_mem 1205 (by decide +kernel) (by decide +kernel), lw_mem 35 (by decide +kernel) (by decide +kernel)⟩
abbrev md_X11_tritones : MD := (RX11, yX11_tritones, cX11_tritones, 1, (some .int), 0)
set_option maxRecDepth 20000 in
theorem lm_X11_tritones : Lm md_X11_tritones 0 := ⟨lw_mem 104 (by decide +kernel) (by decide +kernel), lw_mem 655 rfl rfl, by decide +kernel, by decide⟩
theorem lv_X11_tritones : LmV md_X11_tritones := ⟨lw_mem 653 (by decide +kernel) (by decide +kernel), lw_mem 654 (by decide +kernel) (by decide +kernel)⟩
abbrev md_X11_interval : MD := (RX11, yX11_interval, cX11_interval, 2, (some .int), 1)
set_option maxRecDepth 20000 in
theorem lm_X11_interval : Lm md_X11_interval 1 := ⟨lw_mem 104 (by decide +kernel) (by decide +kernel), lw_mem 1213 rfl rfl, by decide +kernel, by decide⟩
theorem lv_X11_interval : LmV md_X11_interval := ⟨lw_mem 1211 (by decide +kernel) (by decide +kernel), lw_mem 1212 (by decide +kernel) (by decide +kernel)⟩
abbrev md_X11_own : MD := (RX11, yX11_own, cX11_own, 5, (some .int), 2)
set_option maxRecDepth 20000 in
theorem lm_X11_own : Lm md_X11_own 2 := ⟨lw_mem 104 (by decide +kernel) (by decide +kernel), lw_mem 1221 rfl rfl, by decide +kernel, by decide⟩
theorem lv_X11_own : LmV md_X11_own := ⟨lw_mem 1219 (by decide +kernel) (by decide +kernel), lw_mem 1220 (by decide +kernel) (by decide +kernel)⟩
abbrev md_X11_breath : MD := (RX11, yX11_breath, cX11_breath, 6, (some .int), 1)
set_option maxRecDepth 20000 in
theorem lm_X11_breath : Lm md_X11_breath 1 := ⟨lw_mem 104 (by decide +kernel) (by decide +kernel), lw_mem 1229 rfl rfl, by decide +kernel, by decide⟩
theorem lv_X11_breath : LmV md_X11_breath := ⟨lw_mem 1227 (by decide +kernel) (by decide +kernel), lw_mem 1228 (by decide +kernel) (by decide +kernel)⟩
abbrev md_X11_palindrome : MD := (RX11, yX11_palindrome, cX11_palindrome, 3, (some .int), 0)
set_option maxRecDepth 20000 in
theorem lm_X11_palindrome : Lm md_X11_palindrome 0 := ⟨lw_mem 104 (by decide +kernel) (by decide +kernel), lw_mem 666 rfl rfl, by decide +kernel, by decide⟩
theorem lv_X11_palindrome : LmV md_X11_palindrome := ⟨lw_mem 664 (by decide +kernel) (by decide +kernel), lw_mem 665 (by decide +kernel) (by decide +kernel)⟩
abbrev md_X11_tonic : MD := (RX11, yX11_tonic, cX11_tonic, 5, (some .int), 0)
set_option maxRecDepth 20000 in
theorem lm_X11_tonic : Lm md_X11_tonic 0 := ⟨lw_mem 104 (by decide +kernel) (by decide +kernel), lw_mem 675 rfl rfl, by decide +kernel, by decide⟩
theorem lv_X11_tonic : LmV md_X11_tonic := ⟨lw_mem 673 (by decide +kernel) (by decide +kernel), lw_mem 674 (by decide +kernel) (by decide +kernel)⟩
abbrev md_X11_like : MD := (RX11, yX11_like, cX11_like, 2, (some .int), 1)
set_option maxRecDepth 20000 in
theorem lm_X11_like : Lm md_X11_like 1 := ⟨lw_mem 104 (by decide +kernel) (by decide +kernel), lw_mem 1236 rfl rfl, by decide +kernel, by decide⟩
theorem lv_X11_like : LmV md_X11_like := ⟨lw_mem 1234 (by decide +kernel) (by decide +kernel), lw_mem 1235 (by decide +kernel) (by decide +kernel)⟩
abbrev md_X11_then : MD := (RX11, yX11_then, cX11_then, 2, (some .int), 1)
set_option maxRecDepth 20000 in
theorem lm_X11_then : Lm md_X11_then 1 := ⟨lw_mem 104 (by decide +kernel) (by decide +kernel), lw_mem 1249 rfl rfl, by decide +kernel, by decide⟩
theorem lv_X11_then : LmV md_X11_then := ⟨lw_mem 1247 (by decide +kernel) (by decide +kernel), lw_mem 1248 (by decide +kernel) (by decide +kernel)⟩
abbrev md_X11_when : MD := (RX11, yX11_when, cX11_when, 5, (some .int), 1)
set_option maxRecDepth 20000 in
theorem lm_X11_when : Lm md_X11_when 2 := ⟨lw_mem 104 (by decide +kernel) (by decide +kernel), lw_mem 1261 rfl rfl, by decide +kernel, by decide⟩
theorem lv_X11_when : LmV md_X11_when := ⟨lw_mem 1259 (by decide +kernel) (by decide +kernel), lw_mem 1260 (by decide +kernel) (by decide +kernel)⟩
abbrev md_X11_quiet : MD := (RX11, yX11_quiet, cX11_quiet, 6, (some .int), 1)
set_option maxRecDepth 20000 in
theorem lm_X11_quiet : Lm md_X11_quiet 1 := ⟨lw_mem 104 (by decide +kernel) (by decide +kernel), lw_mem 1268 rfl rfl, by decide +kernel, by decide⟩
theorem lv_X11_quiet : LmV md_X11_quiet := ⟨lw_mem 1266 (by decide +kernel) (by decide +kernel), lw_mem 1267 (by decide +kernel) (by decide +kernel)⟩
abbrev md_X11_isQuiet : MD := (RX11, yX11_isQuiet, cX11_isQuiet, 5, (some .boolean), 0)
set_option maxRecDepth 20000 in
theorem lm_X11_isQuiet : Lm md_X11_isQuiet 2 := ⟨lw_mem 104 (by decide +kernel) (by decide +kernel), lw_mem 1273 rfl rfl, by decide +kernel, by decide⟩
theorem lv_X11_isQuiet : LmV md_X11_isQuiet := ⟨lw_mem 1272 (by decide +kernel) (by decide +kernel), lw_mem 36 (by decide +kernel) (by decide +kernel)⟩
abbrev md_X11_match : MD := (RX11, yX11_match, cX11_match, 6, (some .int), 0)
set_option maxRecDepth 20000 in
theorem lm_X11_match : Lm md_X11_match 0 := ⟨lw_mem 104 (by decide +kernel) (by decide +kernel), lw_mem 683 rfl rfl, by decide +kernel, by decide⟩
theorem lv_X11_match : LmV md_X11_match := ⟨lw_mem 681 (by decide +kernel) (by decide +kernel), lw_mem 682 (by decide +kernel) (by decide +kernel)⟩
abbrev md_X11_likeIfMarried : MD := (RX11, yX11_likeIfMarried, cX11_likeIfMarried, 4, (some .int), 0)
set_option maxRecDepth 20000 in
theorem lm_X11_likeIfMarried : Lm md_X11_likeIfMarried 2 := ⟨lw_mem 104 (by decide +kernel) (by decide +kernel), lw_mem 710 rfl rfl, by decide +kernel, by decide⟩
theorem lv_X11_likeIfMarried : LmV md_X11_likeIfMarried := ⟨lw_mem 709 (by decide +kernel) (by decide +kernel), lw_mem 8 (by decide +kernel) (by decide +kernel)⟩
abbrev md_X11_hear : MD := (RX11, yX11_hear, cX11_hear, 4, (some .int), 0)
set_option maxRecDepth 20000 in
theorem lm_X11_hear : Lm md_X11_hear 2 := ⟨lw_mem 104 (by decide +kernel) (by decide +kernel), lw_mem 739 rfl rfl, by decide +kernel, by decide⟩
theorem lv_X11_hear : LmV md_X11_hear := ⟨lw_mem 737 (by decide +kernel) (by decide +kernel), lw_mem 738 (by decide +kernel) (by decide +kernel)⟩
abbrev md_X11_spy : MD := (RX11, yX11_spy, cX11_spy, 5, (some .int), 1)
set_option maxRecDepth 20000 in
theorem lm_X11_spy : Lm md_X11_spy 1 := ⟨lw_mem 104 (by decide +kernel) (by decide +kernel), lw_mem 1280 rfl rfl, by decide +kernel, by decide⟩
theorem lv_X11_spy : LmV md_X11_spy := ⟨lw_mem 1278 (by decide +kernel) (by decide +kernel), lw_mem 1279 (by decide +kernel) (by decide +kernel)⟩
abbrev md_X11_wouldBeHeard : MD := (RX11, yX11_wouldBeHeard, cX11_wouldBeHeard, 3, (some .boolean), 0)
set_option maxRecDepth 20000 in
theorem lm_X11_wouldBeHeard : Lm md_X11_wouldBeHeard 2 := ⟨lw_mem 104 (by decide +kernel) (by decide +kernel), lw_mem 1284 rfl rfl, by decide +kernel, by decide⟩
theorem lv_X11_wouldBeHeard : LmV md_X11_wouldBeHeard := ⟨lw_mem 1283 (by decide +kernel) (by decide +kernel), lw_mem 37 (by decide +kernel) (by decide +kernel)⟩
abbrev md_X11_listen : MD := (RX11, yX11_listen, cX11_listen, 7, (some .int), 1)
set_option maxRecDepth 20000 in
theorem lm_X11_listen : Lm md_X11_listen 1 := ⟨lw_mem 104 (by decide +kernel) (by decide +kernel), lw_mem 1300 rfl rfl, by decide +kernel, by decide⟩
theorem lv_X11_listen : LmV md_X11_listen := ⟨lw_mem 1298 (by decide +kernel) (by decide +kernel), lw_mem 1299 (by decide +kernel) (by decide +kernel)⟩
abbrev md_X11_gatherSigns : MD := (RX11, yX11_gatherSigns, cX11_gatherSigns, 3, none, 0)
set_option maxRecDepth 20000 in
theorem lm_X11_gatherSigns : Lm md_X11_gatherSigns 1 := ⟨lw_mem 104 (by decide +kernel) (by decide +kernel), lw_mem 1305 rfl rfl, by decide +kernel, by decide⟩
theorem lv_X11_gatherSigns : LmV md_X11_gatherSigns := ⟨lw_mem 1304 (by decide +kernel) (by decide +kernel), lw_mem 38 (by decide +kernel) (by decide +kernel)⟩
abbrev md_X11_forget : MD := (RX11, yX11_forget, cX11_forget, 1, none, 0)
set_option maxRecDepth 20000 in
theorem lm_X11_forget : Lm md_X11_forget 0 := ⟨lw_mem 104 (by decide +kernel) (by decide +kernel), lw_mem 747 rfl rfl, by decide +kernel, by decide⟩
theorem lv_X11_forget : LmV md_X11_forget := ⟨lw_mem 745 (by decide +kernel) (by decide +kernel), lw_mem 746 (by decide +kernel) (by decide +kernel)⟩
abbrev md_X11_vote : MD := (RX11, yX11_vote, cX11_vote, 7, (some .int), 0)
set_option maxRecDepth 20000 in
theorem lm_X11_vote : Lm md_X11_vote 0 := ⟨lw_mem 104 (by decide +kernel) (by decide +kernel), lw_mem 751 rfl rfl, by decide +kernel, by decide⟩
theorem lv_X11_vote : LmV md_X11_vote := ⟨lw_mem 749 (by decide +kernel) (by decide +kernel), lw_mem 750 (by decide +kernel) (by decide +kernel)⟩
abbrev md_X11_game : MD := (RX11, yX11_game, cX11_game, 5, (some .int), 2)
set_option maxRecDepth 20000 in
theorem lm_X11_game : Lm md_X11_game 3 := ⟨lw_mem 104 (by decide +kernel) (by decide +kernel), lw_mem 1312 rfl rfl, by decide +kernel, by decide⟩
theorem lv_X11_game : LmV md_X11_game := ⟨lw_mem 1310 (by decide +kernel) (by decide +kernel), lw_mem 1311 (by decide +kernel) (by decide +kernel)⟩
abbrev md_X11_century : MD := (RX11, yX11_century, cX11_century, 7, (some .int), 2)
set_option maxRecDepth 20000 in
theorem lm_X11_century : Lm md_X11_century 3 := ⟨lw_mem 104 (by decide +kernel) (by decide +kernel), lw_mem 1352 rfl rfl, by decide +kernel, by decide⟩
theorem lv_X11_century : LmV md_X11_century := ⟨lw_mem 1350 (by decide +kernel) (by decide +kernel), lw_mem 1351 (by decide +kernel) (by decide +kernel)⟩
abbrev md_X11_nextSeed : MD := (RX11, yX11_nextSeed, cX11_nextSeed, 1, (some .int), 0)
set_option maxRecDepth 20000 in
theorem lm_X11_nextSeed : Lm md_X11_nextSeed 1 := ⟨lw_mem 104 (by decide +kernel) (by decide +kernel), lw_mem 1355 rfl rfl, by decide +kernel, by decide⟩
theorem ls_X11_nextSeed : LmS md_X11_nextSeed := lw_mem 1354 (by decide +kernel) (by decide +kernel)
abbrev md_X11_draw : MD := (RX11, yX11_draw, cX11_draw, 2, (some .int), 0)
set_option maxRecDepth 20000 in
theorem lm_X11_draw : Lm md_X11_draw 2 := ⟨lw_mem 104 (by decide +kernel) (by decide +kernel), lw_mem 1359 rfl rfl, by decide +kernel, by decide⟩
theorem ls_X11_draw : LmS md_X11_draw := lw_mem 1358 (by decide +kernel) (by decide +kernel)
abbrev md_X11_image : MD := (RX11, yX11_image, cX11_image, 1, none, 0)
set_option maxRecDepth 20000 in
theorem lm_X11_image : Lm md_X11_image 0 := ⟨lw_mem 104 (by decide +kernel) (by decide +kernel), lw_mem 762 rfl rfl, by decide +kernel, by decide⟩
theorem lv_X11_image : LmV md_X11_image := ⟨lw_mem 760 (by decide +kernel) (by decide +kernel), lw_mem 761 (by decide +kernel) (by decide +kernel)⟩
abbrev md_X11_restore : MD := (RX11, yX11_restore, cX11_restore, 1, (some .boolean), 0)
set_option maxRecDepth 20000 in
theorem lm_X11_restore : Lm md_X11_restore 0 := ⟨lw_mem 104 (by decide +kernel) (by decide +kernel), lw_mem 776 rfl rfl, by decide +kernel, by decide⟩
theorem lv_X11_restore : LmV md_X11_restore := ⟨lw_mem 774 (by decide +kernel) (by decide +kernel), lw_mem 775 (by decide +kernel) (by decide +kernel)⟩
abbrev md_X12_thrown : MD := (RX12, yX12_thrown, cX12_thrown, 1, (some .int), 0)
set_option maxRecDepth 20000 in
theorem lm_X12_thrown : Lm md_X12_thrown 0 := ⟨lw_mem 116 (by decide +kernel) (by decide +kernel), lw_mem 1594 rfl rfl, by decide +kernel, by decide⟩
theorem lv_X12_thrown : LmV md_X12_thrown := ⟨lw_mem 1592 (by decide +kernel) (by decide +kernel), lw_mem 1593 (by decide +kernel) (by decide +kernel)⟩
abbrev md_X12_fail : MD := (RX12, yX12_fail, cX12_fail, 2, (some .int), 0)
set_option maxRecDepth 20000 in
theorem lm_X12_fail : Lm md_X12_fail 1 := ⟨lw_mem 116 (by decide +kernel) (by decide +kernel), lw_mem 1606 rfl rfl, by decide +kernel, by decide⟩
theorem lv_X12_fail : LmV md_X12_fail := ⟨lw_mem 1605 (by decide +kernel) (by decide +kernel), lw_mem 40 (by decide +kernel) (by decide +kernel)⟩
abbrev md_X12_failing : MD := (RX12, yX12_failing, cX12_failing, 2, (some .boolean), 0)
set_option maxRecDepth 20000 in
theorem lm_X12_failing : Lm md_X12_failing 1 := ⟨lw_mem 116 (by decide +kernel) (by decide +kernel), lw_mem 1826 rfl rfl, by decide +kernel, by decide⟩
theorem lv_X12_failing : LmV md_X12_failing := ⟨lw_mem 1825 (by decide +kernel) (by decide +kernel), lw_mem 78 (by decide +kernel) (by decide +kernel)⟩
abbrev md_X12_isIn : MD := (RX12, yX12_isIn, cX12_isIn, 6, (some .boolean), 0)
set_option maxRecDepth 20000 in
theorem lm_X12_isIn : Lm md_X12_isIn 3 := ⟨lw_mem 116 (by decide +kernel) (by decide +kernel), lw_mem 1747 rfl rfl, by decide +kernel, by decide⟩
theorem ls_X12_isIn : LmS md_X12_isIn := lw_mem 1746 (by decide +kernel) (by decide +kernel)
abbrev md_X12_isOf : MD := (RX12, yX12_isOf, cX12_isOf, 2, (some .boolean), 0)
set_option maxRecDepth 20000 in
theorem lm_X12_isOf : Lm md_X12_isOf 2 := ⟨lw_mem 116 (by decide +kernel) (by decide +kernel), lw_mem 1792 rfl rfl, by decide +kernel, by decide⟩
theorem ls_X12_isOf : LmS md_X12_isOf := lw_mem 1791 (by decide +kernel) (by decide +kernel)
abbrev md_X12_by12 : MD := (RX12, yX12_by12, cX12_by12, 2, (some .int), 0)
set_option maxRecDepth 20000 in
theorem lm_X12_by12 : Lm md_X12_by12 1 := ⟨lw_mem 116 (by decide +kernel) (by decide +kernel), lw_mem 1814 rfl rfl, by decide +kernel, by decide⟩
theorem ls_X12_by12 : LmS md_X12_by12 := lw_mem 1813 (by decide +kernel) (by decide +kernel)
abbrev md_X12_isPerson : MD := (RX12, yX12_isPerson, cX12_isPerson, 2, (some .boolean), 0)
set_option maxRecDepth 20000 in
theorem lm_X12_isPerson : Lm md_X12_isPerson 1 := ⟨lw_mem 116 (by decide +kernel) (by decide +kernel), lw_mem 1744 rfl rfl, by decide +kernel, by decide⟩
theorem lv_X12_isPerson : LmV md_X12_isPerson := ⟨lw_mem 1743 (by decide +kernel) (by decide +kernel), lw_mem 66 (by decide +kernel) (by decide +kernel)⟩
abbrev md_X12_feed : MD := (RX12, yX12_feed, cX12_feed, 8, (some .int), 0)
set_option maxRecDepth 20000 in
theorem lm_X12_feed : Lm md_X12_feed 5 := ⟨lw_mem 116 (by decide +kernel) (by decide +kernel), lw_mem 1598 rfl rfl, by decide +kernel, by decide⟩
theorem lv_X12_feed : LmV md_X12_feed := ⟨lw_mem 1596 (by decide +kernel) (by decide +kernel), lw_mem 1597 (by decide +kernel) (by decide +kernel)⟩
abbrev md_X12_byteAt : MD := (RX12, yX12_byteAt, cX12_byteAt, 2, (some .int), 0)
set_option maxRecDepth 20000 in
theorem lm_X12_byteAt : Lm md_X12_byteAt 1 := ⟨lw_mem 116 (by decide +kernel) (by decide +kernel), lw_mem 1614 rfl rfl, by decide +kernel, by decide⟩
theorem lv_X12_byteAt : LmV md_X12_byteAt := ⟨lw_mem 1613 (by decide +kernel) (by decide +kernel), lw_mem 42 (by decide +kernel) (by decide +kernel)⟩
abbrev md_X12_isLetter : MD := (RX12, yX12_isLetter, cX12_isLetter, 1, (some .boolean), 0)
set_option maxRecDepth 20000 in
theorem lm_X12_isLetter : Lm md_X12_isLetter 1 := ⟨lw_mem 116 (by decide +kernel) (by decide +kernel), lw_mem 1617 rfl rfl, by decide +kernel, by decide⟩
theorem ls_X12_isLetter : LmS md_X12_isLetter := lw_mem 1616 (by decide +kernel) (by decide +kernel)
abbrev md_X12_isDigit : MD := (RX12, yX12_isDigit, cX12_isDigit, 1, (some .boolean), 0)
set_option maxRecDepth 20000 in
theorem lm_X12_isDigit : Lm md_X12_isDigit 1 := ⟨lw_mem 116 (by decide +kernel) (by decide +kernel), lw_mem 1620 rfl rfl, by decide +kernel, by decide⟩
theorem ls_X12_isDigit : LmS md_X12_isDigit := lw_mem 1619 (by decide +kernel) (by decide +kernel)
abbrev md_X12_isMark : MD := (RX12, yX12_isMark, cX12_isMark, 1, (some .boolean), 0)
set_option maxRecDepth 20000 in
theorem lm_X12_isMark : Lm md_X12_isMark 1 := ⟨lw_mem 116 (by decide +kernel) (by decide +kernel), lw_mem 1625 rfl rfl, by decide +kernel, by decide⟩
theorem ls_X12_isMark : LmS md_X12_isMark := lw_mem 1624 (by decide +kernel) (by decide +kernel)
abbrev md_X12_stepOn : MD := (RX12, yX12_stepOn, cX12_stepOn, 2, none, 0)
set_option maxRecDepth 20000 in
theorem lm_X12_stepOn : Lm md_X12_stepOn 0 := ⟨lw_mem 116 (by decide +kernel) (by decide +kernel), lw_mem 1610 rfl rfl, by decide +kernel, by decide⟩
theorem lv_X12_stepOn : LmV md_X12_stepOn := ⟨lw_mem 1609 (by decide +kernel) (by decide +kernel), lw_mem 41 (by decide +kernel) (by decide +kernel)⟩
abbrev md_X12_wrong : MD := (RX12, yX12_wrong, cX12_wrong, 2, none, 0)
set_option maxRecDepth 20000 in
theorem lm_X12_wrong : Lm md_X12_wrong 1 := ⟨lw_mem 116 (by decide +kernel) (by decide +kernel), lw_mem 1645 rfl rfl, by decide +kernel, by decide⟩
theorem lv_X12_wrong : LmV md_X12_wrong := ⟨lw_mem 1644 (by decide +kernel) (by decide +kernel), lw_mem 46 (by decide +kernel) (by decide +kernel)⟩
abbrev md_X12_is : MD := (RX12, yX12_is, cX12_is, 4, (some .boolean), 0)
set_option maxRecDepth 20000 in
theorem lm_X12_is : Lm md_X12_is 1 := ⟨lw_mem 116 (by decide +kernel) (by decide +kernel), lw_mem 1633 rfl rfl, by decide +kernel, by decide⟩
theorem lv_X12_is : LmV md_X12_is := ⟨lw_mem 1632 (by decide +kernel) (by decide +kernel), lw_mem 44 (by decide +kernel) (by decide +kernel)⟩
abbrev md_X12_which : MD := (RX12, yX12_which, cX12_which, 3, (some .int), 0)
set_option maxRecDepth 20000 in
theorem lm_X12_which : Lm md_X12_which 1 := ⟨lw_mem 116 (by decide +kernel) (by decide +kernel), lw_mem 1641 rfl rfl, by decide +kernel, by decide⟩
theorem lv_X12_which : LmV md_X12_which := ⟨lw_mem 1640 (by decide +kernel) (by decide +kernel), lw_mem 45 (by decide +kernel) (by decide +kernel)⟩
abbrev md_X12_isMarked : MD := (RX12, yX12_isMarked, cX12_isMarked, 2, (some .boolean), 0)
set_option maxRecDepth 20000 in
theorem lm_X12_isMarked : Lm md_X12_isMarked 1 := ⟨lw_mem 116 (by decide +kernel) (by decide +kernel), lw_mem 1665 rfl rfl, by decide +kernel, by decide⟩
theorem lv_X12_isMarked : LmV md_X12_isMarked := ⟨lw_mem 1664 (by decide +kernel) (by decide +kernel), lw_mem 51 (by decide +kernel) (by decide +kernel)⟩
abbrev md_X12_mark : MD := (RX12, yX12_mark, cX12_mark, 2, none, 0)
set_option maxRecDepth 20000 in
theorem lm_X12_mark : Lm md_X12_mark 1 := ⟨lw_mem 116 (by decide +kernel) (by decide +kernel), lw_mem 1694 rfl rfl, by decide +kernel, by decide⟩
theorem lv_X12_mark : LmV md_X12_mark := ⟨lw_mem 1693 (by decide +kernel) (by decide +kernel), lw_mem 58 (by decide +kernel) (by decide +kernel)⟩
abbrev md_X12_numberNow : MD := (RX12, yX12_numberNow, cX12_numberNow, 3, (some .int), 0)
set_option maxRecDepth 20000 in
theorem lm_X12_numberNow : Lm md_X12_numberNow 2 := ⟨lw_mem 116 (by decide +kernel) (by decide +kernel), lw_mem 1653 rfl rfl, by decide +kernel, by decide⟩
theorem lv_X12_numberNow : LmV md_X12_numberNow := ⟨lw_mem 1652 (by decide +kernel) (by decide +kernel), lw_mem 48 (by decide +kernel) (by decide +kernel)⟩
abbrev md_X12_readNumber : MD := (RX12, yX12_readNumber, cX12_readNumber, 4, (some .int), 0)
set_option maxRecDepth 20000 in
theorem lm_X12_readNumber : Lm md_X12_readNumber 2 := ⟨lw_mem 116 (by decide +kernel) (by decide +kernel), lw_mem 1649 rfl rfl, by decide +kernel, by decide⟩
theorem lv_X12_readNumber : LmV md_X12_readNumber := ⟨lw_mem 1648 (by decide +kernel) (by decide +kernel), lw_mem 47 (by decide +kernel) (by decide +kernel)⟩
abbrev md_X12_personNow : MD := (RX12, yX12_personNow, cX12_personNow, 2, (some .int), 0)
set_option maxRecDepth 20000 in
theorem lm_X12_personNow : Lm md_X12_personNow 0 := ⟨lw_mem 116 (by decide +kernel) (by decide +kernel), lw_mem 1713 rfl rfl, by decide +kernel, by decide⟩
theorem lv_X12_personNow : LmV md_X12_personNow := ⟨lw_mem 1712 (by decide +kernel) (by decide +kernel), lw_mem 62 (by decide +kernel) (by decide +kernel)⟩
abbrev md_X12_lay : MD := (RX12, yX12_lay, cX12_lay, 2, none, 0)
set_option maxRecDepth 20000 in
theorem lm_X12_lay : Lm md_X12_lay 1 := ⟨lw_mem 116 (by decide +kernel) (by decide +kernel), lw_mem 1690 rfl rfl, by decide +kernel, by decide⟩
theorem lv_X12_lay : LmV md_X12_lay := ⟨lw_mem 1689 (by decide +kernel) (by decide +kernel), lw_mem 57 (by decide +kernel) (by decide +kernel)⟩
abbrev md_X12_readPart : MD := (RX12, yX12_readPart, cX12_readPart, 3, none, 0)
set_option maxRecDepth 20000 in
theorem lm_X12_readPart : Lm md_X12_readPart 1 := ⟨lw_mem 116 (by decide +kernel) (by decide +kernel), lw_mem 1686 rfl rfl, by decide +kernel, by decide⟩
theorem lv_X12_readPart : LmV md_X12_readPart := ⟨lw_mem 1685 (by decide +kernel) (by decide +kernel), lw_mem 56 (by decide +kernel) (by decide +kernel)⟩
abbrev md_X12_readProduct : MD := (RX12, yX12_readProduct, cX12_readProduct, 3, none, 0)
set_option maxRecDepth 20000 in
theorem lm_X12_readProduct : Lm md_X12_readProduct 1 := ⟨lw_mem 116 (by decide +kernel) (by decide +kernel), lw_mem 1682 rfl rfl, by decide +kernel, by decide⟩
theorem lv_X12_readProduct : LmV md_X12_readProduct := ⟨lw_mem 1681 (by decide +kernel) (by decide +kernel), lw_mem 55 (by decide +kernel) (by decide +kernel)⟩
abbrev md_X12_readSum : MD := (RX12, yX12_readSum, cX12_readSum, 3, none, 0)
set_option maxRecDepth 20000 in
theorem lm_X12_readSum : Lm md_X12_readSum 1 := ⟨lw_mem 116 (by decide +kernel) (by decide +kernel), lw_mem 1678 rfl rfl, by decide +kernel, by decide⟩
theorem lv_X12_readSum : LmV md_X12_readSum := ⟨lw_mem 1677 (by decide +kernel) (by decide +kernel), lw_mem 54 (by decide +kernel) (by decide +kernel)⟩
abbrev md_X12_readNot : MD := (RX12, yX12_readNot, cX12_readNot, 4, none, 0)
set_option maxRecDepth 20000 in
theorem lm_X12_readNot : Lm md_X12_readNot 1 := ⟨lw_mem 116 (by decide +kernel) (by decide +kernel), lw_mem 1673 rfl rfl, by decide +kernel, by decide⟩
theorem lv_X12_readNot : LmV md_X12_readNot := ⟨lw_mem 1672 (by decide +kernel) (by decide +kernel), lw_mem 53 (by decide +kernel) (by decide +kernel)⟩
abbrev md_X12_readAnd : MD := (RX12, yX12_readAnd, cX12_readAnd, 2, none, 0)
set_option maxRecDepth 20000 in
theorem lm_X12_readAnd : Lm md_X12_readAnd 1 := ⟨lw_mem 116 (by decide +kernel) (by decide +kernel), lw_mem 1669 rfl rfl, by decide +kernel, by decide⟩
theorem lv_X12_readAnd : LmV md_X12_readAnd := ⟨lw_mem 1668 (by decide +kernel) (by decide +kernel), lw_mem 52 (by decide +kernel) (by decide +kernel)⟩
abbrev md_X12_readExpression : MD := (RX12, yX12_readExpression, cX12_readExpression, 3, none, 0)
set_option maxRecDepth 20000 in
theorem lm_X12_readExpression : Lm md_X12_readExpression 1 := ⟨lw_mem 116 (by decide +kernel) (by decide +kernel), lw_mem 1661 rfl rfl, by decide +kernel, by decide⟩
theorem lv_X12_readExpression : LmV md_X12_readExpression := ⟨lw_mem 1660 (by decide +kernel) (by decide +kernel), lw_mem 50 (by decide +kernel) (by decide +kernel)⟩
abbrev md_X12_another : MD := (RX12, yX12_another, cX12_another, 3, (some .boolean), 0)
set_option maxRecDepth 20000 in
theorem lm_X12_another : Lm md_X12_another 2 := ⟨lw_mem 116 (by decide +kernel) (by decide +kernel), lw_mem 1704 rfl rfl, by decide +kernel, by decide⟩
theorem lv_X12_another : LmV md_X12_another := ⟨lw_mem 1703 (by decide +kernel) (by decide +kernel), lw_mem 60 (by decide +kernel) (by decide +kernel)⟩
abbrev md_X12_sayPerson : MD := (RX12, yX12_sayPerson, cX12_sayPerson, 5, none, 0)
set_option maxRecDepth 20000 in
theorem lm_X12_sayPerson : Lm md_X12_sayPerson 1 := ⟨lw_mem 116 (by decide +kernel) (by decide +kernel), lw_mem 1700 rfl rfl, by decide +kernel, by decide⟩
theorem lv_X12_sayPerson : LmV md_X12_sayPerson := ⟨lw_mem 1699 (by decide +kernel) (by decide +kernel), lw_mem 59 (by decide +kernel) (by decide +kernel)⟩
abbrev md_X12_sayFeud : MD := (RX12, yX12_sayFeud, cX12_sayFeud, 5, none, 0)
set_option maxRecDepth 20000 in
theorem lm_X12_sayFeud : Lm md_X12_sayFeud 0 := ⟨lw_mem 116 (by decide +kernel) (by decide +kernel), lw_mem 1709 rfl rfl, by decide +kernel, by decide⟩
theorem lv_X12_sayFeud : LmV md_X12_sayFeud := ⟨lw_mem 1708 (by decide +kernel) (by decide +kernel), lw_mem 61 (by decide +kernel) (by decide +kernel)⟩
abbrev md_X12_sayOther : MD := (RX12, yX12_sayOther, cX12_sayOther, 3, none, 0)
set_option maxRecDepth 20000 in
theorem lm_X12_sayOther : Lm md_X12_sayOther 0 := ⟨lw_mem 116 (by decide +kernel) (by decide +kernel), lw_mem 1657 rfl rfl, by decide +kernel, by decide⟩
theorem lv_X12_sayOther : LmV md_X12_sayOther := ⟨lw_mem 1656 (by decide +kernel) (by decide +kernel), lw_mem 49 (by decide +kernel) (by decide +kernel)⟩
abbrev md_X12_readLine : MD := (RX12, yX12_readLine, cX12_readLine, 4, (some .int), 0)
set_option maxRecDepth 20000 in
theorem lm_X12_readLine : Lm md_X12_readLine 1 := ⟨lw_mem 116 (by decide +kernel) (by decide +kernel), lw_mem 1629 rfl rfl, by decide +kernel, by decide⟩
theorem lv_X12_readLine : LmV md_X12_readLine := ⟨lw_mem 1628 (by decide +kernel) (by decide +kernel), lw_mem 43 (by decide +kernel) (by decide +kernel)⟩
abbrev md_X12_town : MD := (RX12, yX12_town, cX12_town, 3, (some .int), 0)
set_option maxRecDepth 20000 in
theorem lm_X12_town : Lm md_X12_town 1 := ⟨lw_mem 116 (by decide +kernel) (by decide +kernel), lw_mem 1602 rfl rfl, by decide +kernel, by decide⟩
theorem lv_X12_town : LmV md_X12_town := ⟨lw_mem 1600 (by decide +kernel) (by decide +kernel), lw_mem 1601 (by decide +kernel) (by decide +kernel)⟩
abbrev md_X12_takeHalf : MD := (RX12, yX12_takeHalf, cX12_takeHalf, 2, none, 0)
set_option maxRecDepth 20000 in
theorem lm_X12_takeHalf : Lm md_X12_takeHalf 1 := ⟨lw_mem 116 (by decide +kernel) (by decide +kernel), lw_mem 1720 rfl rfl, by decide +kernel, by decide⟩
theorem ls_X12_takeHalf : LmS md_X12_takeHalf := lw_mem 1719 (by decide +kernel) (by decide +kernel)
abbrev md_X12_takeOver : MD := (RX12, yX12_takeOver, cX12_takeOver, 2, none, 0)
set_option maxRecDepth 20000 in
theorem lm_X12_takeOver : Lm md_X12_takeOver 0 := ⟨lw_mem 116 (by decide +kernel) (by decide +kernel), lw_mem 1717 rfl rfl, by decide +kernel, by decide⟩
theorem lv_X12_takeOver : LmV md_X12_takeOver := ⟨lw_mem 1716 (by decide +kernel) (by decide +kernel), lw_mem 63 (by decide +kernel) (by decide +kernel)⟩
abbrev md_X12_placeOf : MD := (RX12, yX12_placeOf, cX12_placeOf, 4, (some .int), 0)
set_option maxRecDepth 20000 in
theorem lm_X12_placeOf : Lm md_X12_placeOf 1 := ⟨lw_mem 116 (by decide +kernel) (by decide +kernel), lw_mem 1724 rfl rfl, by decide +kernel, by decide⟩
theorem lv_X12_placeOf : LmV md_X12_placeOf := ⟨lw_mem 1723 (by decide +kernel) (by decide +kernel), lw_mem 64 (by decide +kernel) (by decide +kernel)⟩
abbrev md_X12_fault : MD := (RX12, yX12_fault, cX12_fault, 1, (some .int), 0)
set_option maxRecDepth 20000 in
theorem lm_X12_fault : Lm md_X12_fault 0 := ⟨lw_mem 116 (by decide +kernel) (by decide +kernel), lw_mem 1728 rfl rfl, by decide +kernel, by decide⟩
theorem lv_X12_fault : LmV md_X12_fault := ⟨lw_mem 1726 (by decide +kernel) (by decide +kernel), lw_mem 1727 (by decide +kernel) (by decide +kernel)⟩
abbrev md_X12_pack : MD := (RX12, yX12_pack, cX12_pack, 4, none, 0)
set_option maxRecDepth 20000 in
theorem lm_X12_pack : Lm md_X12_pack 2 := ⟨lw_mem 116 (by decide +kernel) (by decide +kernel), lw_mem 1781 rfl rfl, by decide +kernel, by decide⟩
theorem lv_X12_pack : LmV md_X12_pack := ⟨lw_mem 1780 (by decide +kernel) (by decide +kernel), lw_mem 70 (by decide +kernel) (by decide +kernel)⟩
abbrev md_X12_unpack : MD := (RX12, yX12_unpack, cX12_unpack, 4, none, 0)
set_option maxRecDepth 20000 in
theorem lm_X12_unpack : Lm md_X12_unpack 2 := ⟨lw_mem 116 (by decide +kernel) (by decide +kernel), lw_mem 1862 rfl rfl, by decide +kernel, by decide⟩
theorem lv_X12_unpack : LmV md_X12_unpack := ⟨lw_mem 1861 (by decide +kernel) (by decide +kernel), lw_mem 82 (by decide +kernel) (by decide +kernel)⟩
abbrev md_X12_reckon : MD := (RX12, yX12_reckon, cX12_reckon, 3, (some .int), 0)
set_option maxRecDepth 20000 in
theorem lm_X12_reckon : Lm md_X12_reckon 3 := ⟨lw_mem 116 (by decide +kernel) (by decide +kernel), lw_mem 1811 rfl rfl, by decide +kernel, by decide⟩
theorem ls_X12_reckon : LmS md_X12_reckon := lw_mem 1810 (by decide +kernel) (by decide +kernel)
abbrev md_X12_valueNow : MD := (RX12, yX12_valueNow, cX12_valueNow, 4, (some .int), 0)
set_option maxRecDepth 20000 in
theorem lm_X12_valueNow : Lm md_X12_valueNow 0 := ⟨lw_mem 116 (by decide +kernel) (by decide +kernel), lw_mem 1808 rfl rfl, by decide +kernel, by decide⟩
theorem lv_X12_valueNow : LmV md_X12_valueNow := ⟨lw_mem 1807 (by decide +kernel) (by decide +kernel), lw_mem 76 (by decide +kernel) (by decide +kernel)⟩
abbrev md_X12_lastNote : MD := (RX12, yX12_lastNote, cX12_lastNote, 2, (some .int), 0)
set_option maxRecDepth 20000 in
theorem lm_X12_lastNote : Lm md_X12_lastNote 0 := ⟨lw_mem 116 (by decide +kernel) (by decide +kernel), lw_mem 1804 rfl rfl, by decide +kernel, by decide⟩
theorem lv_X12_lastNote : LmV md_X12_lastNote := ⟨lw_mem 1803 (by decide +kernel) (by decide +kernel), lw_mem 75 (by decide +kernel) (by decide +kernel)⟩
abbrev md_X12_signsOf : MD := (RX12, yX12_signsOf, cX12_signsOf, 4, (some .int), 0)
set_option maxRecDepth 20000 in
theorem lm_X12_signsOf : Lm md_X12_signsOf 1 := ⟨lw_mem 116 (by decide +kernel) (by decide +kernel), lw_mem 1751 rfl rfl, by decide +kernel, by decide⟩
theorem lv_X12_signsOf : LmV md_X12_signsOf := ⟨lw_mem 1750 (by decide +kernel) (by decide +kernel), lw_mem 67 (by decide +kernel) (by decide +kernel)⟩
abbrev md_X12_byRule : MD := (RX12, yX12_byRule, cX12_byRule, 2, (some .int), 0)
set_option maxRecDepth 20000 in
theorem lm_X12_byRule : Lm md_X12_byRule 1 := ⟨lw_mem 116 (by decide +kernel) (by decide +kernel), lw_mem 1800 rfl rfl, by decide +kernel, by decide⟩
theorem lv_X12_byRule : LmV md_X12_byRule := ⟨lw_mem 1799 (by decide +kernel) (by decide +kernel), lw_mem 74 (by decide +kernel) (by decide +kernel)⟩
abbrev md_X12_isFeud : MD := (RX12, yX12_isFeud, cX12_isFeud, 4, (some .boolean), 0)
set_option maxRecDepth 20000 in
theorem lm_X12_isFeud : Lm md_X12_isFeud 2 := ⟨lw_mem 116 (by decide +kernel) (by decide +kernel), lw_mem 1818 rfl rfl, by decide +kernel, by decide⟩
theorem lv_X12_isFeud : LmV md_X12_isFeud := ⟨lw_mem 1817 (by decide +kernel) (by decide +kernel), lw_mem 77 (by decide +kernel) (by decide +kernel)⟩
abbrev md_X12_noteOf : MD := (RX12, yX12_noteOf, cX12_noteOf, 3, (some .int), 0)
set_option maxRecDepth 20000 in
theorem lm_X12_noteOf : Lm md_X12_noteOf 1 := ⟨lw_mem 116 (by decide +kernel) (by decide +kernel), lw_mem 1796 rfl rfl, by decide +kernel, by decide⟩
theorem lv_X12_noteOf : LmV md_X12_noteOf := ⟨lw_mem 1795 (by decide +kernel) (by decide +kernel), lw_mem 73 (by decide +kernel) (by decide +kernel)⟩
abbrev md_X12_aYear : MD := (RX12, yX12_aYear, cX12_aYear, 4, none, 0)
set_option maxRecDepth 20000 in
theorem lm_X12_aYear : Lm md_X12_aYear 0 := ⟨lw_mem 116 (by decide +kernel) (by decide +kernel), lw_mem 1789 rfl rfl, by decide +kernel, by decide⟩
theorem lv_X12_aYear : LmV md_X12_aYear := ⟨lw_mem 1788 (by decide +kernel) (by decide +kernel), lw_mem 72 (by decide +kernel) (by decide +kernel)⟩
abbrev md_X12_goOn : MD := (RX12, yX12_goOn, cX12_goOn, 3, none, 0)
set_option maxRecDepth 20000 in
theorem lm_X12_goOn : Lm md_X12_goOn 1 := ⟨lw_mem 116 (by decide +kernel) (by decide +kernel), lw_mem 1785 rfl rfl, by decide +kernel, by decide⟩
theorem lv_X12_goOn : LmV md_X12_goOn := ⟨lw_mem 1784 (by decide +kernel) (by decide +kernel), lw_mem 71 (by decide +kernel) (by decide +kernel)⟩
abbrev md_X12_rests : MD := (RX12, yX12_rests, cX12_rests, 3, (some .int), 0)
set_option maxRecDepth 20000 in
theorem lm_X12_rests : Lm md_X12_rests 0 := ⟨lw_mem 116 (by decide +kernel) (by decide +kernel), lw_mem 1736 rfl rfl, by decide +kernel, by decide⟩
theorem lv_X12_rests : LmV md_X12_rests := ⟨lw_mem 1735 (by decide +kernel) (by decide +kernel), lw_mem 65 (by decide +kernel) (by decide +kernel)⟩
abbrev md_X12_count : MD := (RX12, yX12_count, cX12_count, 2, (some .int), 0)
set_option maxRecDepth 20000 in
theorem lm_X12_count : Lm md_X12_count 1 := ⟨lw_mem 116 (by decide +kernel) (by decide +kernel), lw_mem 1732 rfl rfl, by decide +kernel, by decide⟩
theorem lv_X12_count : LmV md_X12_count := ⟨lw_mem 1730 (by decide +kernel) (by decide +kernel), lw_mem 1731 (by decide +kernel) (by decide +kernel)⟩
abbrev md_X12_person : MD := (RX12, yX12_person, cX12_person, 5, (some .int), 0)
set_option maxRecDepth 20000 in
theorem lm_X12_person : Lm md_X12_person 2 := ⟨lw_mem 116 (by decide +kernel) (by decide +kernel), lw_mem 1740 rfl rfl, by decide +kernel, by decide⟩
theorem lv_X12_person : LmV md_X12_person := ⟨lw_mem 1738 (by decide +kernel) (by decide +kernel), lw_mem 1739 (by decide +kernel) (by decide +kernel)⟩
abbrev md_X12_feud : MD := (RX12, yX12_feud, cX12_feud, 3, (some .int), 0)
set_option maxRecDepth 20000 in
theorem lm_X12_feud : Lm md_X12_feud 2 := ⟨lw_mem 116 (by decide +kernel) (by decide +kernel), lw_mem 1755 rfl rfl, by decide +kernel, by decide⟩
theorem lv_X12_feud : LmV md_X12_feud := ⟨lw_mem 1753 (by decide +kernel) (by decide +kernel), lw_mem 1754 (by decide +kernel) (by decide +kernel)⟩
abbrev md_X12_sign : MD := (RX12, yX12_sign, cX12_sign, 3, (some .int), 0)
set_option maxRecDepth 20000 in
theorem lm_X12_sign : Lm md_X12_sign 2 := ⟨lw_mem 116 (by decide +kernel) (by decide +kernel), lw_mem 1759 rfl rfl, by decide +kernel, by decide⟩
theorem lv_X12_sign : LmV md_X12_sign := ⟨lw_mem 1757 (by decide +kernel) (by decide +kernel), lw_mem 1758 (by decide +kernel) (by decide +kernel)⟩
abbrev md_X12_other : MD := (RX12, yX12_other, cX12_other, 2, (some .int), 0)
set_option maxRecDepth 20000 in
theorem lm_X12_other : Lm md_X12_other 1 := ⟨lw_mem 116 (by decide +kernel) (by decide +kernel), lw_mem 1764 rfl rfl, by decide +kernel, by decide⟩
theorem lv_X12_other : LmV md_X12_other := ⟨lw_mem 1762 (by decide +kernel) (by decide +kernel), lw_mem 1763 (by decide +kernel) (by decide +kernel)⟩
abbrev md_X12_refuse : MD := (RX12, yX12_refuse, cX12_refuse, 2, (some .int), 0)
set_option maxRecDepth 20000 in
theorem lm_X12_refuse : Lm md_X12_refuse 1 := ⟨lw_mem 116 (by decide +kernel) (by decide +kernel), lw_mem 1773 rfl rfl, by decide +kernel, by decide⟩
theorem lv_X12_refuse : LmV md_X12_refuse := ⟨lw_mem 1772 (by decide +kernel) (by decide +kernel), lw_mem 68 (by decide +kernel) (by decide +kernel)⟩
abbrev md_X12_refuses : MD := (RX12, yX12_refuses, cX12_refuses, 1, (some .boolean), 0)
set_option maxRecDepth 20000 in
theorem lm_X12_refuses : Lm md_X12_refuses 0 := ⟨lw_mem 116 (by decide +kernel) (by decide +kernel), lw_mem 1830 rfl rfl, by decide +kernel, by decide⟩
theorem lv_X12_refuses : LmV md_X12_refuses := ⟨lw_mem 1829 (by decide +kernel) (by decide +kernel), lw_mem 79 (by decide +kernel) (by decide +kernel)⟩
abbrev md_X12_keep : MD := (RX12, yX12_keep, cX12_keep, 2, none, 0)
set_option maxRecDepth 20000 in
theorem lm_X12_keep : Lm md_X12_keep 0 := ⟨lw_mem 116 (by decide +kernel) (by decide +kernel), lw_mem 1777 rfl rfl, by decide +kernel, by decide⟩
theorem lv_X12_keep : LmV md_X12_keep := ⟨lw_mem 1776 (by decide +kernel) (by decide +kernel), lw_mem 69 (by decide +kernel) (by decide +kernel)⟩
abbrev md_X12_years : MD := (RX12, yX12_years, cX12_years, 2, (some .int), 0)
set_option maxRecDepth 20000 in
theorem lm_X12_years : Lm md_X12_years 1 := ⟨lw_mem 116 (by decide +kernel) (by decide +kernel), lw_mem 1768 rfl rfl, by decide +kernel, by decide⟩
theorem lv_X12_years : LmV md_X12_years := ⟨lw_mem 1766 (by decide +kernel) (by decide +kernel), lw_mem 1767 (by decide +kernel) (by decide +kernel)⟩
abbrev md_X12_away : MD := (RX12, yX12_away, cX12_away, 3, (some .boolean), 0)
set_option maxRecDepth 20000 in
theorem lm_X12_away : Lm md_X12_away 2 := ⟨lw_mem 116 (by decide +kernel) (by decide +kernel), lw_mem 1822 rfl rfl, by decide +kernel, by decide⟩
theorem lv_X12_away : LmV md_X12_away := ⟨lw_mem 1820 (by decide +kernel) (by decide +kernel), lw_mem 1821 (by decide +kernel) (by decide +kernel)⟩
abbrev md_X12_dies : MD := (RX12, yX12_dies, cX12_dies, 2, (some .boolean), 0)
set_option maxRecDepth 20000 in
theorem lm_X12_dies : Lm md_X12_dies 1 := ⟨lw_mem 116 (by decide +kernel) (by decide +kernel), lw_mem 1834 rfl rfl, by decide +kernel, by decide⟩
theorem lv_X12_dies : LmV md_X12_dies := ⟨lw_mem 1832 (by decide +kernel) (by decide +kernel), lw_mem 1833 (by decide +kernel) (by decide +kernel)⟩
abbrev md_X12_canMarry : MD := (RX12, yX12_canMarry, cX12_canMarry, 3, (some .boolean), 0)
set_option maxRecDepth 20000 in
theorem lm_X12_canMarry : Lm md_X12_canMarry 2 := ⟨lw_mem 116 (by decide +kernel) (by decide +kernel), lw_mem 1842 rfl rfl, by decide +kernel, by decide⟩
theorem lv_X12_canMarry : LmV md_X12_canMarry := ⟨lw_mem 1841 (by decide +kernel) (by decide +kernel), lw_mem 80 (by decide +kernel) (by decide +kernel)⟩
abbrev md_X12_wed : MD := (RX12, yX12_wed, cX12_wed, 3, none, 0)
set_option maxRecDepth 20000 in
theorem lm_X12_wed : Lm md_X12_wed 2 := ⟨lw_mem 116 (by decide +kernel) (by decide +kernel), lw_mem 1846 rfl rfl, by decide +kernel, by decide⟩
theorem lv_X12_wed : LmV md_X12_wed := ⟨lw_mem 1845 (by decide +kernel) (by decide +kernel), lw_mem 81 (by decide +kernel) (by decide +kernel)⟩
abbrev md_X12_marry : MD := (RX12, yX12_marry, cX12_marry, 3, (some .int), 0)
set_option maxRecDepth 20000 in
theorem lm_X12_marry : Lm md_X12_marry 2 := ⟨lw_mem 116 (by decide +kernel) (by decide +kernel), lw_mem 1838 rfl rfl, by decide +kernel, by decide⟩
theorem lv_X12_marry : LmV md_X12_marry := ⟨lw_mem 1836 (by decide +kernel) (by decide +kernel), lw_mem 1837 (by decide +kernel) (by decide +kernel)⟩
abbrev md_X12_quarrel : MD := (RX12, yX12_quarrel, cX12_quarrel, 3, (some .int), 0)
set_option maxRecDepth 20000 in
theorem lm_X12_quarrel : Lm md_X12_quarrel 2 := ⟨lw_mem 116 (by decide +kernel) (by decide +kernel), lw_mem 1850 rfl rfl, by decide +kernel, by decide⟩
theorem lv_X12_quarrel : LmV md_X12_quarrel := ⟨lw_mem 1848 (by decide +kernel) (by decide +kernel), lw_mem 1849 (by decide +kernel) (by decide +kernel)⟩
abbrev md_X12_peace : MD := (RX12, yX12_peace, cX12_peace, 3, (some .boolean), 0)
set_option maxRecDepth 20000 in
theorem lm_X12_peace : Lm md_X12_peace 1 := ⟨lw_mem 116 (by decide +kernel) (by decide +kernel), lw_mem 1854 rfl rfl, by decide +kernel, by decide⟩
theorem lv_X12_peace : LmV md_X12_peace := ⟨lw_mem 1852 (by decide +kernel) (by decide +kernel), lw_mem 1853 (by decide +kernel) (by decide +kernel)⟩
abbrev md_X12_undo : MD := (RX12, yX12_undo, cX12_undo, 1, (some .int), 0)
set_option maxRecDepth 20000 in
theorem lm_X12_undo : Lm md_X12_undo 0 := ⟨lw_mem 116 (by decide +kernel) (by decide +kernel), lw_mem 1858 rfl rfl, by decide +kernel, by decide⟩
theorem lv_X12_undo : LmV md_X12_undo := ⟨lw_mem 1856 (by decide +kernel) (by decide +kernel), lw_mem 1857 (by decide +kernel) (by decide +kernel)⟩
abbrev md_X12_tellPhrase : MD := (RX12, yX12_tellPhrase, cX12_tellPhrase, 5, (some .boolean), 0)
set_option maxRecDepth 20000 in
theorem lm_X12_tellPhrase : Lm md_X12_tellPhrase 2 := ⟨lw_mem 116 (by decide +kernel) (by decide +kernel), lw_mem 1870 rfl rfl, by decide +kernel, by decide⟩
theorem lv_X12_tellPhrase : LmV md_X12_tellPhrase := ⟨lw_mem 1869 (by decide +kernel) (by decide +kernel), lw_mem 83 (by decide +kernel) (by decide +kernel)⟩
abbrev md_X12_isAt : MD := (RX12, yX12_isAt, cX12_isAt, 4, (some .boolean), 0)
set_option maxRecDepth 20000 in
theorem lm_X12_isAt : Lm md_X12_isAt 2 := ⟨lw_mem 116 (by decide +kernel) (by decide +kernel), lw_mem 1875 rfl rfl, by decide +kernel, by decide⟩
theorem lv_X12_isAt : LmV md_X12_isAt := ⟨lw_mem 1874 (by decide +kernel) (by decide +kernel), lw_mem 84 (by decide +kernel) (by decide +kernel)⟩
abbrev md_X12_firstFrom : MD := (RX12, yX12_firstFrom, cX12_firstFrom, 4, (some .int), 0)
set_option maxRecDepth 20000 in
theorem lm_X12_firstFrom : Lm md_X12_firstFrom 2 := ⟨lw_mem 116 (by decide +kernel) (by decide +kernel), lw_mem 1879 rfl rfl, by decide +kernel, by decide⟩
theorem lv_X12_firstFrom : LmV md_X12_firstFrom := ⟨lw_mem 1878 (by decide +kernel) (by decide +kernel), lw_mem 85 (by decide +kernel) (by decide +kernel)⟩
abbrev md_X12_found : MD := (RX12, yX12_found, cX12_found, 6, (some .int), 0)
set_option maxRecDepth 20000 in
theorem lm_X12_found : Lm md_X12_found 3 := ⟨lw_mem 116 (by decide +kernel) (by decide +kernel), lw_mem 1866 rfl rfl, by decide +kernel, by decide⟩
theorem lv_X12_found : LmV md_X12_found := ⟨lw_mem 1864 (by decide +kernel) (by decide +kernel), lw_mem 1865 (by decide +kernel) (by decide +kernel)⟩
abbrev md_X12_tellAgain : MD := (RX12, yX12_tellAgain, cX12_tellAgain, 4, none, 0)
set_option maxRecDepth 20000 in
theorem lm_X12_tellAgain : Lm md_X12_tellAgain 0 := ⟨lw_mem 116 (by decide +kernel) (by decide +kernel), lw_mem 1887 rfl rfl, by decide +kernel, by decide⟩
theorem lv_X12_tellAgain : LmV md_X12_tellAgain := ⟨lw_mem 1886 (by decide +kernel) (by decide +kernel), lw_mem 86 (by decide +kernel) (by decide +kernel)⟩
abbrev md_X12_again : MD := (RX12, yX12_again, cX12_again, 2, (some .int), 0)
set_option maxRecDepth 20000 in
theorem lm_X12_again : Lm md_X12_again 1 := ⟨lw_mem 116 (by decide +kernel) (by decide +kernel), lw_mem 1883 rfl rfl, by decide +kernel, by decide⟩
theorem lv_X12_again : LmV md_X12_again := ⟨lw_mem 1881 (by decide +kernel) (by decide +kernel), lw_mem 1882 (by decide +kernel) (by decide +kernel)⟩
abbrev md_X12_isTritone : MD := (RX12, yX12_isTritone, cX12_isTritone, 2, (some .boolean), 0)
set_option maxRecDepth 20000 in
theorem lm_X12_isTritone : Lm md_X12_isTritone 1 := ⟨lw_mem 116 (by decide +kernel) (by decide +kernel), lw_mem 1899 rfl rfl, by decide +kernel, by decide⟩
theorem lv_X12_isTritone : LmV md_X12_isTritone := ⟨lw_mem 1898 (by decide +kernel) (by decide +kernel), lw_mem 88 (by decide +kernel) (by decide +kernel)⟩
abbrev md_X12_tritonesFrom : MD := (RX12, yX12_tritonesFrom, cX12_tritonesFrom, 4, (some .int), 0)
set_option maxRecDepth 20000 in
theorem lm_X12_tritonesFrom : Lm md_X12_tritonesFrom 1 := ⟨lw_mem 116 (by decide +kernel) (by decide +kernel), lw_mem 1895 rfl rfl, by decide +kernel, by decide⟩
theorem lv_X12_tritonesFrom : LmV md_X12_tritonesFrom := ⟨lw_mem 1894 (by decide +kernel) (by decide +kernel), lw_mem 87 (by decide +kernel) (by decide +kernel)⟩
abbrev md_X12_tritones : MD := (RX12, yX12_tritones, cX12_tritones, 1, (some .int), 0)
set_option maxRecDepth 20000 in
theorem lm_X12_tritones : Lm md_X12_tritones 0 := ⟨lw_mem 116 (by decide +kernel) (by decide +kernel), lw_mem 1891 rfl rfl, by decide +kernel, by decide⟩
theorem lv_X12_tritones : LmV md_X12_tritones := ⟨lw_mem 1889 (by decide +kernel) (by decide +kernel), lw_mem 1890 (by decide +kernel) (by decide +kernel)⟩
abbrev md_X12_interval : MD := (RX12, yX12_interval, cX12_interval, 4, (some .int), 0)
set_option maxRecDepth 20000 in
theorem lm_X12_interval : Lm md_X12_interval 1 := ⟨lw_mem 116 (by decide +kernel) (by decide +kernel), lw_mem 1906 rfl rfl, by decide +kernel, by decide⟩
theorem lv_X12_interval : LmV md_X12_interval := ⟨lw_mem 1904 (by decide +kernel) (by decide +kernel), lw_mem 1905 (by decide +kernel) (by decide +kernel)⟩
abbrev md_X12_own : MD := (RX12, yX12_own, cX12_own, 5, (some .int), 0)
set_option maxRecDepth 20000 in
theorem lm_X12_own : Lm md_X12_own 2 := ⟨lw_mem 116 (by decide +kernel) (by decide +kernel), lw_mem 1911 rfl rfl, by decide +kernel, by decide⟩
theorem lv_X12_own : LmV md_X12_own := ⟨lw_mem 1909 (by decide +kernel) (by decide +kernel), lw_mem 1910 (by decide +kernel) (by decide +kernel)⟩
abbrev md_X12_breath : MD := (RX12, yX12_breath, cX12_breath, 6, (some .int), 0)
set_option maxRecDepth 20000 in
theorem lm_X12_breath : Lm md_X12_breath 1 := ⟨lw_mem 116 (by decide +kernel) (by decide +kernel), lw_mem 1915 rfl rfl, by decide +kernel, by decide⟩
theorem lv_X12_breath : LmV md_X12_breath := ⟨lw_mem 1913 (by decide +kernel) (by decide +kernel), lw_mem 1914 (by decide +kernel) (by decide +kernel)⟩
abbrev md_X12_roundAbout : MD := (RX12, yX12_roundAbout, cX12_roundAbout, 5, (some .int), 0)
set_option maxRecDepth 20000 in
theorem lm_X12_roundAbout : Lm md_X12_roundAbout 2 := ⟨lw_mem 116 (by decide +kernel) (by decide +kernel), lw_mem 1923 rfl rfl, by decide +kernel, by decide⟩
theorem lv_X12_roundAbout : LmV md_X12_roundAbout := ⟨lw_mem 1922 (by decide +kernel) (by decide +kernel), lw_mem 89 (by decide +kernel) (by decide +kernel)⟩
abbrev md_X12_palindrome : MD := (RX12, yX12_palindrome, cX12_palindrome, 3, (some .int), 0)
set_option maxRecDepth 20000 in
theorem lm_X12_palindrome : Lm md_X12_palindrome 0 := ⟨lw_mem 116 (by decide +kernel) (by decide +kernel), lw_mem 1919 rfl rfl, by decide +kernel, by decide⟩
theorem lv_X12_palindrome : LmV md_X12_palindrome := ⟨lw_mem 1917 (by decide +kernel) (by decide +kernel), lw_mem 1918 (by decide +kernel) (by decide +kernel)⟩
abbrev md_X12_timesOf : MD := (RX12, yX12_timesOf, cX12_timesOf, 4, (some .int), 0)
set_option maxRecDepth 20000 in
theorem lm_X12_timesOf : Lm md_X12_timesOf 1 := ⟨lw_mem 116 (by decide +kernel) (by decide +kernel), lw_mem 1932 rfl rfl, by decide +kernel, by decide⟩
theorem lv_X12_timesOf : LmV md_X12_timesOf := ⟨lw_mem 1931 (by decide +kernel) (by decide +kernel), lw_mem 90 (by decide +kernel) (by decide +kernel)⟩
abbrev md_X12_tonic : MD := (RX12, yX12_tonic, cX12_tonic, 4, (some .int), 0)
set_option maxRecDepth 20000 in
theorem lm_X12_tonic : Lm md_X12_tonic 0 := ⟨lw_mem 116 (by decide +kernel) (by decide +kernel), lw_mem 1928 rfl rfl, by decide +kernel, by decide⟩
theorem lv_X12_tonic : LmV md_X12_tonic := ⟨lw_mem 1926 (by decide +kernel) (by decide +kernel), lw_mem 1927 (by decide +kernel) (by decide +kernel)⟩
abbrev md_X12_likeNow : MD := (RX12, yX12_likeNow, cX12_likeNow, 3, (some .int), 0)
set_option maxRecDepth 20000 in
theorem lm_X12_likeNow : Lm md_X12_likeNow 0 := ⟨lw_mem 116 (by decide +kernel) (by decide +kernel), lw_mem 1940 rfl rfl, by decide +kernel, by decide⟩
theorem lv_X12_likeNow : LmV md_X12_likeNow := ⟨lw_mem 1939 (by decide +kernel) (by decide +kernel), lw_mem 91 (by decide +kernel) (by decide +kernel)⟩
abbrev md_X12_apartNow : MD := (RX12, yX12_apartNow, cX12_apartNow, 5, (some .int), 0)
set_option maxRecDepth 20000 in
theorem lm_X12_apartNow : Lm md_X12_apartNow 0 := ⟨lw_mem 116 (by decide +kernel) (by decide +kernel), lw_mem 1944 rfl rfl, by decide +kernel, by decide⟩
theorem lv_X12_apartNow : LmV md_X12_apartNow := ⟨lw_mem 1943 (by decide +kernel) (by decide +kernel), lw_mem 92 (by decide +kernel) (by decide +kernel)⟩
abbrev md_X12_like : MD := (RX12, yX12_like, cX12_like, 2, (some .int), 0)
set_option maxRecDepth 20000 in
theorem lm_X12_like : Lm md_X12_like 1 := ⟨lw_mem 116 (by decide +kernel) (by decide +kernel), lw_mem 1936 rfl rfl, by decide +kernel, by decide⟩
theorem lv_X12_like : LmV md_X12_like := ⟨lw_mem 1934 (by decide +kernel) (by decide +kernel), lw_mem 1935 (by decide +kernel) (by decide +kernel)⟩
abbrev md_X12_then : MD := (RX12, yX12_then, cX12_then, 3, (some .int), 0)
set_option maxRecDepth 20000 in
theorem lm_X12_then : Lm md_X12_then 1 := ⟨lw_mem 116 (by decide +kernel) (by decide +kernel), lw_mem 1948 rfl rfl, by decide +kernel, by decide⟩
theorem lv_X12_then : LmV md_X12_then := ⟨lw_mem 1946 (by decide +kernel) (by decide +kernel), lw_mem 1947 (by decide +kernel) (by decide +kernel)⟩
abbrev md_X12_when : MD := (RX12, yX12_when, cX12_when, 5, (some .int), 0)
set_option maxRecDepth 20000 in
theorem lm_X12_when : Lm md_X12_when 2 := ⟨lw_mem 116 (by decide +kernel) (by decide +kernel), lw_mem 1953 rfl rfl, by decide +kernel, by decide⟩
theorem lv_X12_when : LmV md_X12_when := ⟨lw_mem 1951 (by decide +kernel) (by decide +kernel), lw_mem 1952 (by decide +kernel) (by decide +kernel)⟩
abbrev md_X12_bitsOf : MD := (RX12, yX12_bitsOf, cX12_bitsOf, 3, (some .int), 0)
set_option maxRecDepth 20000 in
theorem lm_X12_bitsOf : Lm md_X12_bitsOf 1 := ⟨lw_mem 116 (by decide +kernel) (by decide +kernel), lw_mem 1961 rfl rfl, by decide +kernel, by decide⟩
theorem ls_X12_bitsOf : LmS md_X12_bitsOf := lw_mem 1960 (by decide +kernel) (by decide +kernel)
abbrev md_X12_quiet : MD := (RX12, yX12_quiet, cX12_quiet, 6, (some .int), 0)
set_option maxRecDepth 20000 in
theorem lm_X12_quiet : Lm md_X12_quiet 1 := ⟨lw_mem 116 (by decide +kernel) (by decide +kernel), lw_mem 1957 rfl rfl, by decide +kernel, by decide⟩
theorem lv_X12_quiet : LmV md_X12_quiet := ⟨lw_mem 1955 (by decide +kernel) (by decide +kernel), lw_mem 1956 (by decide +kernel) (by decide +kernel)⟩
abbrev md_X12_likeIn : MD := (RX12, yX12_likeIn, cX12_likeIn, 2, (some .int), 0)
set_option maxRecDepth 20000 in
theorem lm_X12_likeIn : Lm md_X12_likeIn 1 := ⟨lw_mem 116 (by decide +kernel) (by decide +kernel), lw_mem 1969 rfl rfl, by decide +kernel, by decide⟩
theorem lv_X12_likeIn : LmV md_X12_likeIn := ⟨lw_mem 1968 (by decide +kernel) (by decide +kernel), lw_mem 93 (by decide +kernel) (by decide +kernel)⟩
abbrev md_X12_match : MD := (RX12, yX12_match, cX12_match, 6, (some .int), 0)
set_option maxRecDepth 20000 in
theorem lm_X12_match : Lm md_X12_match 0 := ⟨lw_mem 116 (by decide +kernel) (by decide +kernel), lw_mem 1965 rfl rfl, by decide +kernel, by decide⟩
theorem lv_X12_match : LmV md_X12_match := ⟨lw_mem 1963 (by decide +kernel) (by decide +kernel), lw_mem 1964 (by decide +kernel) (by decide +kernel)⟩
abbrev md_X12_hear : MD := (RX12, yX12_hear, cX12_hear, 3, (some .int), 0)
set_option maxRecDepth 20000 in
theorem lm_X12_hear : Lm md_X12_hear 2 := ⟨lw_mem 116 (by decide +kernel) (by decide +kernel), lw_mem 1973 rfl rfl, by decide +kernel, by decide⟩
theorem lv_X12_hear : LmV md_X12_hear := ⟨lw_mem 1971 (by decide +kernel) (by decide +kernel), lw_mem 1972 (by decide +kernel) (by decide +kernel)⟩
abbrev md_X12_isAsHeard : MD := (RX12, yX12_isAsHeard, cX12_isAsHeard, 3, (some .boolean), 0)
set_option maxRecDepth 20000 in
theorem lm_X12_isAsHeard : Lm md_X12_isAsHeard 0 := ⟨lw_mem 116 (by decide +kernel) (by decide +kernel), lw_mem 1982 rfl rfl, by decide +kernel, by decide⟩
theorem lv_X12_isAsHeard : LmV md_X12_isAsHeard := ⟨lw_mem 1981 (by decide +kernel) (by decide +kernel), lw_mem 94 (by decide +kernel) (by decide +kernel)⟩
abbrev md_X12_spies : MD := (RX12, yX12_spies, cX12_spies, 3, (some .int), 0)
set_option maxRecDepth 20000 in
theorem lm_X12_spies : Lm md_X12_spies 0 := ⟨lw_mem 116 (by decide +kernel) (by decide +kernel), lw_mem 1986 rfl rfl, by decide +kernel, by decide⟩
theorem lv_X12_spies : LmV md_X12_spies := ⟨lw_mem 1985 (by decide +kernel) (by decide +kernel), lw_mem 95 (by decide +kernel) (by decide +kernel)⟩
abbrev md_X12_spy : MD := (RX12, yX12_spy, cX12_spy, 4, (some .int), 0)
set_option maxRecDepth 20000 in
theorem lm_X12_spy : Lm md_X12_spy 1 := ⟨lw_mem 116 (by decide +kernel) (by decide +kernel), lw_mem 1978 rfl rfl, by decide +kernel, by decide⟩
theorem lv_X12_spy : LmV md_X12_spy := ⟨lw_mem 1976 (by decide +kernel) (by decide +kernel), lw_mem 1977 (by decide +kernel) (by decide +kernel)⟩
abbrev md_X12_tellUnlike : MD := (RX12, yX12_tellUnlike, cX12_tellUnlike, 5, none, 0)
set_option maxRecDepth 20000 in
theorem lm_X12_tellUnlike : Lm md_X12_tellUnlike 1 := ⟨lw_mem 116 (by decide +kernel) (by decide +kernel), lw_mem 1994 rfl rfl, by decide +kernel, by decide⟩
theorem lv_X12_tellUnlike : LmV md_X12_tellUnlike := ⟨lw_mem 1993 (by decide +kernel) (by decide +kernel), lw_mem 96 (by decide +kernel) (by decide +kernel)⟩
abbrev md_X12_listen : MD := (RX12, yX12_listen, cX12_listen, 5, (some .int), 0)
set_option maxRecDepth 20000 in
theorem lm_X12_listen : Lm md_X12_listen 1 := ⟨lw_mem 116 (by decide +kernel) (by decide +kernel), lw_mem 1990 rfl rfl, by decide +kernel, by decide⟩
theorem lv_X12_listen : LmV md_X12_listen := ⟨lw_mem 1988 (by decide +kernel) (by decide +kernel), lw_mem 1989 (by decide +kernel) (by decide +kernel)⟩
abbrev md_X12_forget : MD := (RX12, yX12_forget, cX12_forget, 1, none, 0)
set_option maxRecDepth 20000 in
theorem lm_X12_forget : Lm md_X12_forget 0 := ⟨lw_mem 116 (by decide +kernel) (by decide +kernel), lw_mem 1998 rfl rfl, by decide +kernel, by decide⟩
theorem lv_X12_forget : LmV md_X12_forget := ⟨lw_mem 1996 (by decide +kernel) (by decide +kernel), lw_mem 1997 (by decide +kernel) (by decide +kernel)⟩
abbrev md_X12_isFor : MD := (RX12, yX12_isFor, cX12_isFor, 5, (some .boolean), 0)
set_option maxRecDepth 20000 in
theorem lm_X12_isFor : Lm md_X12_isFor 1 := ⟨lw_mem 116 (by decide +kernel) (by decide +kernel), lw_mem 2006 rfl rfl, by decide +kernel, by decide⟩
theorem lv_X12_isFor : LmV md_X12_isFor := ⟨lw_mem 2005 (by decide +kernel) (by decide +kernel), lw_mem 97 (by decide +kernel) (by decide +kernel)⟩
abbrev md_X12_vote : MD := (RX12, yX12_vote, cX12_vote, 3, (some .int), 0)
set_option maxRecDepth 20000 in
theorem lm_X12_vote : Lm md_X12_vote 0 := ⟨lw_mem 116 (by decide +kernel) (by decide +kernel), lw_mem 2002 rfl rfl, by decide +kernel, by decide⟩
theorem lv_X12_vote : LmV md_X12_vote := ⟨lw_mem 2000 (by decide +kernel) (by decide +kernel), lw_mem 2001 (by decide +kernel) (by decide +kernel)⟩
abbrev md_X12_canSend : MD := (RX12, yX12_canSend, cX12_canSend, 3, (some .boolean), 0)
set_option maxRecDepth 20000 in
theorem lm_X12_canSend : Lm md_X12_canSend 2 := ⟨lw_mem 116 (by decide +kernel) (by decide +kernel), lw_mem 2019 rfl rfl, by decide +kernel, by decide⟩
theorem lv_X12_canSend : LmV md_X12_canSend := ⟨lw_mem 2018 (by decide +kernel) (by decide +kernel), lw_mem 99 (by decide +kernel) (by decide +kernel)⟩
abbrev md_X12_tellGains : MD := (RX12, yX12_tellGains, cX12_tellGains, 7, none, 0)
set_option maxRecDepth 20000 in
theorem lm_X12_tellGains : Lm md_X12_tellGains 0 := ⟨lw_mem 116 (by decide +kernel) (by decide +kernel), lw_mem 2015 rfl rfl, by decide +kernel, by decide⟩
theorem lv_X12_tellGains : LmV md_X12_tellGains := ⟨lw_mem 2014 (by decide +kernel) (by decide +kernel), lw_mem 98 (by decide +kernel) (by decide +kernel)⟩
abbrev md_X12_stays : MD := (RX12, yX12_stays, cX12_stays, 6, (some .boolean), 0)
set_option maxRecDepth 20000 in
theorem lm_X12_stays : Lm md_X12_stays 4 := ⟨lw_mem 116 (by decide +kernel) (by decide +kernel), lw_mem 2023 rfl rfl, by decide +kernel, by decide⟩
theorem lv_X12_stays : LmV md_X12_stays := ⟨lw_mem 2022 (by decide +kernel) (by decide +kernel), lw_mem 100 (by decide +kernel) (by decide +kernel)⟩
abbrev md_X12_game : MD := (RX12, yX12_game, cX12_game, 8, (some .int), 0)
set_option maxRecDepth 20000 in
theorem lm_X12_game : Lm md_X12_game 3 := ⟨lw_mem 116 (by decide +kernel) (by decide +kernel), lw_mem 2010 rfl rfl, by decide +kernel, by decide⟩
theorem lv_X12_game : LmV md_X12_game := ⟨lw_mem 2008 (by decide +kernel) (by decide +kernel), lw_mem 2009 (by decide +kernel) (by decide +kernel)⟩
abbrev md_X12_drawOf : MD := (RX12, yX12_drawOf, cX12_drawOf, 2, (some .int), 0)
set_option maxRecDepth 20000 in
theorem lm_X12_drawOf : Lm md_X12_drawOf 1 := ⟨lw_mem 116 (by decide +kernel) (by decide +kernel), lw_mem 2035 rfl rfl, by decide +kernel, by decide⟩
theorem lv_X12_drawOf : LmV md_X12_drawOf := ⟨lw_mem 2034 (by decide +kernel) (by decide +kernel), lw_mem 102 (by decide +kernel) (by decide +kernel)⟩
abbrev md_X12_something : MD := (RX12, yX12_something, cX12_something, 3, none, 0)
set_option maxRecDepth 20000 in
theorem lm_X12_something : Lm md_X12_something 0 := ⟨lw_mem 116 (by decide +kernel) (by decide +kernel), lw_mem 2031 rfl rfl, by decide +kernel, by decide⟩
theorem lv_X12_something : LmV md_X12_something := ⟨lw_mem 2030 (by decide +kernel) (by decide +kernel), lw_mem 101 (by decide +kernel) (by decide +kernel)⟩
abbrev md_X12_century : MD := (RX12, yX12_century, cX12_century, 5, (some .int), 0)
set_option maxRecDepth 20000 in
theorem lm_X12_century : Lm md_X12_century 3 := ⟨lw_mem 116 (by decide +kernel) (by decide +kernel), lw_mem 2027 rfl rfl, by decide +kernel, by decide⟩
theorem lv_X12_century : LmV md_X12_century := ⟨lw_mem 2025 (by decide +kernel) (by decide +kernel), lw_mem 2026 (by decide +kernel) (by decide +kernel)⟩
abbrev md_X12_be : MD := (RX12, yX12_be, cX12_be, 3, none, 0)
set_option maxRecDepth 20000 in
theorem lm_X12_be : Lm md_X12_be 2 := ⟨lw_mem 116 (by decide +kernel) (by decide +kernel), lw_mem 2043 rfl rfl, by decide +kernel, by decide⟩
theorem ls_X12_be : LmS md_X12_be := lw_mem 2042 (by decide +kernel) (by decide +kernel)
abbrev md_X12_image : MD := (RX12, yX12_image, cX12_image, 1, none, 0)
set_option maxRecDepth 20000 in
theorem lm_X12_image : Lm md_X12_image 0 := ⟨lw_mem 116 (by decide +kernel) (by decide +kernel), lw_mem 2040 rfl rfl, by decide +kernel, by decide⟩
theorem lv_X12_image : LmV md_X12_image := ⟨lw_mem 2038 (by decide +kernel) (by decide +kernel), lw_mem 2039 (by decide +kernel) (by decide +kernel)⟩
abbrev md_X12_restore : MD := (RX12, yX12_restore, cX12_restore, 1, (some .boolean), 0)
set_option maxRecDepth 20000 in
theorem lm_X12_restore : Lm md_X12_restore 0 := ⟨lw_mem 116 (by decide +kernel) (by decide +kernel), lw_mem 2047 rfl rfl, by decide +kernel, by decide⟩
theorem lv_X12_restore : LmV md_X12_restore := ⟨lw_mem 2045 (by decide +kernel) (by decide +kernel), lw_mem 2046 (by decide +kernel) (by decide +kernel)⟩
abbrev md_J6_bitCount_0f7a4 : MD := (RJ6, yJ6_bitCount_0f7a4, cJ6_bitCount_0f7a4, 1, (some .int), 0)
set_option maxRecDepth 20000 in
theorem lm_J6_bitCount_0f7a4 : Lm md_J6_bitCount_0f7a4 1 := ⟨lw_mem 128 (by decide +kernel) (by decide +kernel), lw_mem 754 rfl rfl, by decide +kernel, by decide⟩
theorem ls_J6_bitCount_0f7a4 : LmS md_J6_bitCount_0f7a4 := lw_mem 753 (by decide +kernel) (by decide +kernel)
abbrev md_J9_floorMod_7cf53 : MD := (RJ9, yJ9_floorMod_7cf53, cJ9_floorMod_7cf53, 3, (some .int), 0)
set_option maxRecDepth 20000 in
theorem lm_J9_floorMod_7cf53 : Lm md_J9_floorMod_7cf53 2 := ⟨lw_mem 121 (by decide +kernel) (by decide +kernel), lw_mem 593 rfl rfl, by decide +kernel, by decide⟩
theorem ls_J9_floorMod_7cf53 : LmS md_J9_floorMod_7cf53 := lw_mem 592 (by decide +kernel) (by decide +kernel)
abbrev md_J9_abs_0f7a4 : MD := (RJ9, yJ9_abs_0f7a4, cJ9_abs_0f7a4, 1, (some .int), 0)
set_option maxRecDepth 20000 in
theorem lm_J9_abs_0f7a4 : Lm md_J9_abs_0f7a4 1 := ⟨lw_mem 121 (by decide +kernel) (by decide +kernel), lw_mem 1902 rfl rfl, by decide +kernel, by decide⟩
theorem ls_J9_abs_0f7a4 : LmS md_J9_abs_0f7a4 := lw_mem 1901 (by decide +kernel) (by decide +kernel)
abbrev md_J9_max_7cf53 : MD := (RJ9, yJ9_max_7cf53, cJ9_max_7cf53, 2, (some .int), 0)
set_option maxRecDepth 20000 in
theorem lm_J9_max_7cf53 : Lm md_J9_max_7cf53 2 := ⟨lw_mem 121 (by decide +kernel) (by decide +kernel), lw_mem 662 rfl rfl, by decide +kernel, by decide⟩
theorem ls_J9_max_7cf53 : LmS md_J9_max_7cf53 := lw_mem 661 (by decide +kernel) (by decide +kernel)
abbrev md_J9_min_7cf53 : MD := (RJ9, yJ9_min_7cf53, cJ9_min_7cf53, 2, (some .int), 0)
set_option maxRecDepth 20000 in
theorem lm_J9_min_7cf53 : Lm md_J9_min_7cf53 2 := ⟨lw_mem 121 (by decide +kernel) (by decide +kernel), lw_mem 865 rfl rfl, by decide +kernel, by decide⟩
theorem ls_J9_min_7cf53 : LmS md_J9_min_7cf53 := lw_mem 864 (by decide +kernel) (by decide +kernel)
abbrev md_J0_length_8abf5 : MD := (RJ0, yJ0_length_8abf5, cJ0_length_8abf5, 1, (some .int), 0)
set_option maxRecDepth 20000 in
theorem lm_J0_length_8abf5 : Lm md_J0_length_8abf5 0 := ⟨lw_mem 122 (by decide +kernel) (by decide +kernel), lw_mem 892 rfl rfl, by decide +kernel, by decide⟩
theorem lv_J0_length_8abf5 : LmV md_J0_length_8abf5 := ⟨lw_mem 890 (by decide +kernel) (by decide +kernel), lw_mem 891 (by decide +kernel) (by decide +kernel)⟩
abbrev md_J0_isLatin1_aae02 : MD := (RJ0, yJ0_isLatin1_aae02, cJ0_isLatin1_aae02, 1, (some .boolean), 0)
set_option maxRecDepth 20000 in
theorem lm_J0_isLatin1_aae02 : Lm md_J0_isLatin1_aae02 0 := ⟨lw_mem 122 (by decide +kernel) (by decide +kernel), lw_mem 906 rfl rfl, by decide +kernel, by decide⟩
theorem lv_J0_isLatin1_aae02 : LmV md_J0_isLatin1_aae02 := ⟨lw_mem 904 (by decide +kernel) (by decide +kernel), lw_mem 905 (by decide +kernel) (by decide +kernel)⟩
abbrev md_J0_checkIndex_df160 : MD := (RJ0, yJ0_checkIndex_df160, cJ0_checkIndex_df160, 2, none, 0)
set_option maxRecDepth 20000 in
theorem lm_J0_checkIndex_df160 : Lm md_J0_checkIndex_df160 2 := ⟨lw_mem 122 (by decide +kernel) (by decide +kernel), lw_mem 912 rfl rfl, by decide +kernel, by decide⟩
theorem ls_J0_checkIndex_df160 : LmS md_J0_checkIndex_df160 := lw_mem 911 (by decide +kernel) (by decide +kernel)
abbrev md_J2_length_9d52b : MD := (RJ2, yJ2_length_9d52b, cJ2_length_9d52b, 1, (some .int), 0)
set_option maxRecDepth 20000 in
theorem lm_J2_length_9d52b : Lm md_J2_length_9d52b 1 := ⟨lw_mem 125 (by decide +kernel) (by decide +kernel), lw_mem 926 rfl rfl, by decide +kernel, by decide⟩
theorem ls_J2_length_9d52b : LmS md_J2_length_9d52b := lw_mem 925 (by decide +kernel) (by decide +kernel)
abbrev md_J2_checkIndex_2214a : MD := (RJ2, yJ2_checkIndex_2214a, cJ2_checkIndex_2214a, 2, none, 0)
set_option maxRecDepth 20000 in
theorem lm_J2_checkIndex_2214a : Lm md_J2_checkIndex_2214a 2 := ⟨lw_mem 125 (by decide +kernel) (by decide +kernel), lw_mem 923 rfl rfl, by decide +kernel, by decide⟩
theorem ls_J2_checkIndex_2214a : LmS md_J2_checkIndex_2214a := lw_mem 922 (by decide +kernel) (by decide +kernel)
abbrev md_J3_checkIndex_8e157 : MD := (RJ3, yJ3_checkIndex_8e157, cJ3_checkIndex_8e157, 3, (some .int), 0)
set_option maxRecDepth 20000 in
theorem lm_J3_checkIndex_8e157 : Lm md_J3_checkIndex_8e157 3 := ⟨lw_mem 124 (by decide +kernel) (by decide +kernel), lw_mem 917 rfl rfl, by decide +kernel, by decide⟩
theorem ls_J3_checkIndex_8e157 : LmS md_J3_checkIndex_8e157 := lw_mem 916 (by decide +kernel) (by decide +kernel)
theorem lf_X0_11 : Lf RX0 11 0 0 2 := ⟨lw_mem 402 (by decide +kernel) (by decide +kernel), by decide +kernel, by decide +kernel, by decide⟩
theorem lf_X0_15 : Lf RX0 15 0 1 0 := ⟨lw_mem 403 (by decide +kernel) (by decide +kernel), by decide +kernel, by decide +kernel, by decide⟩
theorem lp_0_1 : Lp 0 1 .int := ⟨by decide +kernel, by decide +kernel⟩
theorem lc_X0_19 : LmC RX0 19 := ⟨lw_mem 562 (by decide +kernel) (by decide +kernel), lw_mem 564 (by decide +kernel) (by decide +kernel), lw_mem 563 (by decide +kernel) (by decide +kernel), lw_mem 126 (by decide +kernel) (by decide +kernel)⟩
theorem lk_X0_25 : Cond.methodLink RX0 25 yX0_cell ∈ lw_g := lw_mem 623 (by decide +kernel) (by decide +kernel)
theorem lf_X1_9 : Lf RX1 9 1 0 2 := ⟨lw_mem 155 (by decide +kernel) (by decide +kernel), by decide +kernel, by decide +kernel, by decide⟩
theorem lf_X1_15 : Lf RX1 15 1 1 2 := ⟨lw_mem 157 (by decide +kernel) (by decide +kernel), by decide +kernel, by decide +kernel, by decide⟩
theorem lf_X1_18 : Lf RX1 18 1 2 0 := ⟨lw_mem 159 (by decide +kernel) (by decide +kernel), by decide +kernel, by decide +kernel, by decide⟩
theorem lp_1_2 : Lp 1 2 .int := ⟨by decide +kernel, by decide +kernel⟩
theorem lk_X1_22 : Cond.methodLink RX1 22 yX1_has ∈ lw_g := lw_mem 610 (by decide +kernel) (by decide +kernel)
theorem lc_X1_26 : LmC RX1 26 := ⟨lw_mem 719 (by decide +kernel) (by decide +kernel), lw_mem 564 (by decide +kernel) (by decide +kernel), lw_mem 563 (by decide +kernel) (by decide +kernel), lw_mem 126 (by decide +kernel) (by decide +kernel)⟩
theorem lf_X2_11 : Lf RX2 11 2 0 2 := ⟨lw_mem 479 (by decide +kernel) (by decide +kernel), by decide +kernel, by decide +kernel, by decide⟩
theorem lf_X2_15 : Lf RX2 15 2 1 2 := ⟨lw_mem 480 (by decide +kernel) (by decide +kernel), by decide +kernel, by decide +kernel, by decide⟩
theorem lf_X2_18 : Lf RX2 18 2 2 0 := ⟨lw_mem 481 (by decide +kernel) (by decide +kernel), by decide +kernel, by decide +kernel, by decide⟩
theorem lp_2_2 : Lp 2 2 .int := ⟨by decide +kernel, by decide +kernel⟩
theorem lf_X2_22 : Lf RX2 22 2 3 0 := ⟨lw_mem 482 (by decide +kernel) (by decide +kernel), by decide +kernel, by decide +kernel, by decide⟩
theorem lp_2_3 : Lp 2 3 .int := ⟨by decide +kernel, by decide +kernel⟩
theorem lf_X2_25 : Lf RX2 25 2 4 2 := ⟨lw_mem 483 (by decide +kernel) (by decide +kernel), by decide +kernel, by decide +kernel, by decide⟩
theorem lf_X2_28 : Lf RX2 28 2 5 2 := ⟨lw_mem 484 (by decide +kernel) (by decide +kernel), by decide +kernel, by decide +kernel, by decide⟩
theorem lk_X2_31 : Cond.methodLink RX2 31 yX2_gatherOf ∈ lw_g := lw_mem 1318 (by decide +kernel) (by decide +kernel)
theorem lf_X2_35 : Lf RX2 35 10 0 0 := ⟨lw_mem 192 (by decide +kernel) (by decide +kernel), by decide +kernel, by decide +kernel, by decide⟩
theorem lf_X2_40 : Lf RX2 40 5 11 2 := ⟨lw_mem 358 (by decide +kernel) (by decide +kernel), by decide +kernel, by decide +kernel, by decide⟩
theorem lf_X2_45 : Lf RX2 45 5 6 0 := ⟨lw_mem 347 (by decide +kernel) (by decide +kernel), by decide +kernel, by decide +kernel, by decide⟩
theorem lf_X2_48 : Lf RX2 48 5 7 0 := ⟨lw_mem 350 (by decide +kernel) (by decide +kernel), by decide +kernel, by decide +kernel, by decide⟩
theorem lk_X2_55 : Cond.methodLink RX2 55 yX5_copyTune ∈ lw_g := lw_mem 1326 (by decide +kernel) (by decide +kernel)
theorem lf_X2_59 : Lf RX2 59 5 5 0 := ⟨lw_mem 344 (by decide +kernel) (by decide +kernel), by decide +kernel, by decide +kernel, by decide⟩
theorem lk_X2_62 : Cond.methodLink RX2 62 yX5_copyRest ∈ lw_g := lw_mem 1327 (by decide +kernel) (by decide +kernel)
theorem lk_X2_65 : Cond.methodLink RX2 65 yX2_bit ∈ lw_g := lw_mem 1328 (by decide +kernel) (by decide +kernel)
theorem lp_5_6 : Lp 5 6 .int := ⟨by decide +kernel, by decide +kernel⟩
theorem lk_X2_69 : Cond.methodLink RX2 69 yX5_passYear ∈ lw_g := lw_mem 1331 (by decide +kernel) (by decide +kernel)
theorem lf_X2_73 : Lf RX2 73 5 3 0 := ⟨lw_mem 338 (by decide +kernel) (by decide +kernel), by decide +kernel, by decide +kernel, by decide⟩
theorem lk_X2_76 : Cond.methodLink RX2 76 yX5_times ∈ lw_g := lw_mem 1332 (by decide +kernel) (by decide +kernel)
theorem lk_X2_80 : Cond.methodLink RX2 80 yX5_risesFrom ∈ lw_g := lw_mem 1333 (by decide +kernel) (by decide +kernel)
theorem lk_X2_83 : Cond.methodLink RX2 83 yX2_isResting ∈ lw_g := lw_mem 1338 (by decide +kernel) (by decide +kernel)
theorem lf_X3_9 : Lf RX3 9 3 0 2 := ⟨lw_mem 416 (by decide +kernel) (by decide +kernel), by decide +kernel, by decide +kernel, by decide⟩
theorem lf_X3_15 : Lf RX3 15 3 1 2 := ⟨lw_mem 417 (by decide +kernel) (by decide +kernel), by decide +kernel, by decide +kernel, by decide⟩
theorem lf_X3_18 : Lf RX3 18 3 2 0 := ⟨lw_mem 418 (by decide +kernel) (by decide +kernel), by decide +kernel, by decide +kernel, by decide⟩
theorem lp_3_2 : Lp 3 2 .int := ⟨by decide +kernel, by decide +kernel⟩
set_option maxRecDepth 20000 in
theorem lc_X3_22 : LmM RX3 22 Lib.Math.max.name Lib.Math.max.code 2 := ⟨lw_mem 1289 (by decide +kernel) (by decide +kernel), lw_mem 661 (by decide +kernel) (by decide +kernel), lw_mem 121 (by decide +kernel) (by decide +kernel), lw_mem 662 rfl rfl⟩
theorem lf_X3_28 : Lf RX3 28 5 3 0 := ⟨lw_mem 337 (by decide +kernel) (by decide +kernel), by decide +kernel, by decide +kernel, by decide⟩
theorem lf_X3_33 : Lf RX3 33 5 0 2 := ⟨lw_mem 329 (by decide +kernel) (by decide +kernel), by decide +kernel, by decide +kernel, by decide⟩
theorem lc_X3_34 : LmC RX3 34 := ⟨lw_mem 771 (by decide +kernel) (by decide +kernel), lw_mem 564 (by decide +kernel) (by decide +kernel), lw_mem 563 (by decide +kernel) (by decide +kernel), lw_mem 126 (by decide +kernel) (by decide +kernel)⟩
theorem lf_X4_9 : Lf RX4 9 4 0 1 := ⟨lw_mem 439 (by decide +kernel) (by decide +kernel), by decide +kernel, by decide +kernel, by decide⟩
theorem lp_4_0 : Lp 4 0 .boolean := ⟨by decide +kernel, by decide +kernel⟩
theorem lf_X4_18 : Lf RX4 18 4 1 2 := ⟨lw_mem 441 (by decide +kernel) (by decide +kernel), by decide +kernel, by decide +kernel, by decide⟩
theorem lf_X4_25 : Lf RX4 25 4 2 2 := ⟨lw_mem 443 (by decide +kernel) (by decide +kernel), by decide +kernel, by decide +kernel, by decide⟩
theorem lf_X4_32 : Lf RX4 32 4 3 2 := ⟨lw_mem 445 (by decide +kernel) (by decide +kernel), by decide +kernel, by decide +kernel, by decide⟩
theorem lf_X4_36 : Lf RX4 36 4 4 2 := ⟨lw_mem 447 (by decide +kernel) (by decide +kernel), by decide +kernel, by decide +kernel, by decide⟩
theorem lf_X5_9 : Lf RX5 9 5 0 2 := ⟨lw_mem 328 (by decide +kernel) (by decide +kernel), by decide +kernel, by decide +kernel, by decide⟩
theorem lf_X5_15 : Lf RX5 15 5 1 2 := ⟨lw_mem 332 (by decide +kernel) (by decide +kernel), by decide +kernel, by decide +kernel, by decide⟩
theorem lf_X5_18 : Lf RX5 18 5 2 2 := ⟨lw_mem 334 (by decide +kernel) (by decide +kernel), by decide +kernel, by decide +kernel, by decide⟩
theorem lf_X5_21 : Lf RX5 21 5 3 0 := ⟨lw_mem 336 (by decide +kernel) (by decide +kernel), by decide +kernel, by decide +kernel, by decide⟩
theorem lp_5_3 : Lp 5 3 .int := ⟨by decide +kernel, by decide +kernel⟩
theorem lf_X5_25 : Lf RX5 25 5 4 0 := ⟨lw_mem 341 (by decide +kernel) (by decide +kernel), by decide +kernel, by decide +kernel, by decide⟩
theorem lp_5_4 : Lp 5 4 .int := ⟨by decide +kernel, by decide +kernel⟩
theorem lf_X5_28 : Lf RX5 28 5 5 0 := ⟨lw_mem 343 (by decide +kernel) (by decide +kernel), by decide +kernel, by decide +kernel, by decide⟩
theorem lp_5_5 : Lp 5 5 .int := ⟨by decide +kernel, by decide +kernel⟩
theorem lf_X5_31 : Lf RX5 31 5 6 0 := ⟨lw_mem 346 (by decide +kernel) (by decide +kernel), by decide +kernel, by decide +kernel, by decide⟩
theorem lf_X5_34 : Lf RX5 34 5 7 0 := ⟨lw_mem 349 (by decide +kernel) (by decide +kernel), by decide +kernel, by decide +kernel, by decide⟩
theorem lp_5_7 : Lp 5 7 .int := ⟨by decide +kernel, by decide +kernel⟩
theorem lf_X5_37 : Lf RX5 37 5 8 0 := ⟨lw_mem 352 (by decide +kernel) (by decide +kernel), by decide +kernel, by decide +kernel, by decide⟩
theorem lp_5_8 : Lp 5 8 .int := ⟨by decide +kernel, by decide +kernel⟩
theorem lf_X5_40 : Lf RX5 40 5 9 0 := ⟨lw_mem 354 (by decide +kernel) (by decide +kernel), by decide +kernel, by decide +kernel, by decide⟩
theorem lp_5_9 : Lp 5 9 .int := ⟨by decide +kernel, by decide +kernel⟩
theorem lf_X5_43 : Lf RX5 43 5 10 0 := ⟨lw_mem 356 (by decide +kernel) (by decide +kernel), by decide +kernel, by decide +kernel, by decide⟩
theorem lp_5_10 : Lp 5 10 .int := ⟨by decide +kernel, by decide +kernel⟩
theorem lf_X5_46 : Lf RX5 46 5 11 2 := ⟨lw_mem 357 (by decide +kernel) (by decide +kernel), by decide +kernel, by decide +kernel, by decide⟩
theorem lf_X5_49 : Lf RX5 49 5 12 2 := ⟨lw_mem 360 (by decide +kernel) (by decide +kernel), by decide +kernel, by decide +kernel, by decide⟩
theorem lf_X5_52 : Lf RX5 52 5 13 2 := ⟨lw_mem 361 (by decide +kernel) (by decide +kernel), by decide +kernel, by decide +kernel, by decide⟩
theorem lf_X5_58 : Lf RX5 58 5 14 2 := ⟨lw_mem 363 (by decide +kernel) (by decide +kernel), by decide +kernel, by decide +kernel, by decide⟩
theorem lf_X5_62 : Lf RX5 62 10 6 0 := ⟨lw_mem 208 (by decide +kernel) (by decide +kernel), by decide +kernel, by decide +kernel, by decide⟩
theorem lf_X5_65 : Lf RX5 65 10 2 2 := ⟨lw_mem 199 (by decide +kernel) (by decide +kernel), by decide +kernel, by decide +kernel, by decide⟩
theorem lf_X5_66 : Lf RX5 66 10 4 2 := ⟨lw_mem 203 (by decide +kernel) (by decide +kernel), by decide +kernel, by decide +kernel, by decide⟩
theorem lf_X5_67 : Lf RX5 67 10 0 0 := ⟨lw_mem 191 (by decide +kernel) (by decide +kernel), by decide +kernel, by decide +kernel, by decide⟩
theorem lf_X5_70 : Lf RX5 70 10 1 2 := ⟨lw_mem 196 (by decide +kernel) (by decide +kernel), by decide +kernel, by decide +kernel, by decide⟩
theorem lf_X5_73 : Lf RX5 73 10 7 2 := ⟨lw_mem 211 (by decide +kernel) (by decide +kernel), by decide +kernel, by decide +kernel, by decide⟩
theorem lk_X5_74 : Cond.methodLink RX5 74 yX1_copy ∈ lw_g := lw_mem 715 (by decide +kernel) (by decide +kernel)
theorem lc_X5_78 : LmC RX5 78 := ⟨lw_mem 688 (by decide +kernel) (by decide +kernel), lw_mem 564 (by decide +kernel) (by decide +kernel), lw_mem 563 (by decide +kernel) (by decide +kernel), lw_mem 126 (by decide +kernel) (by decide +kernel)⟩
theorem lf_X5_84 : Lf RX5 84 10 5 2 := ⟨lw_mem 206 (by decide +kernel) (by decide +kernel), by decide +kernel, by decide +kernel, by decide⟩
theorem lk_X5_91 : Cond.methodLink RX5 91 yX5_nextSign ∈ lw_g := lw_mem 572 (by decide +kernel) (by decide +kernel)
theorem lk_X5_95 : Cond.methodLink RX5 95 yX5_add ∈ lw_g := lw_mem 594 (by decide +kernel) (by decide +kernel)
theorem lk_X5_99 : Cond.methodLink RX5 99 yX5_passYear ∈ lw_g := lw_mem 1254 (by decide +kernel) (by decide +kernel)
theorem lk_X5_103 : Cond.methodLink RX5 103 yX1_between ∈ lw_g := lw_mem 576 (by decide +kernel) (by decide +kernel)
theorem lf_X5_106 : Lf RX5 106 10 10 2 := ⟨lw_mem 222 (by decide +kernel) (by decide +kernel), by decide +kernel, by decide +kernel, by decide⟩
theorem lf_X5_110 : Lf RX5 110 8 1 0 := ⟨lw_mem 181 (by decide +kernel) (by decide +kernel), by decide +kernel, by decide +kernel, by decide⟩
theorem lk_X5_115 : Cond.methodLink RX5 115 yX8_worth ∈ lw_g := lw_mem 580 (by decide +kernel) (by decide +kernel)
theorem lk_X5_119 : Cond.methodLink RX5 119 yJ9_floorMod_7cf53 ∈ lw_g := lw_mem 591 (by decide +kernel) (by decide +kernel)
theorem lk_X5_125 : Cond.methodLink RX5 125 yX0_one ∈ lw_g := lw_mem 619 (by decide +kernel) (by decide +kernel)
theorem lk_X5_131 : Cond.methodLink RX5 131 yX0_two ∈ lw_g := lw_mem 627 (by decide +kernel) (by decide +kernel)
theorem lk_X5_134 : Cond.methodLink RX5 134 yX0_kind ∈ lw_g := lw_mem 631 (by decide +kernel) (by decide +kernel)
theorem lk_X5_136 : Cond.methodLink RX5 136 yX5_cut ∈ lw_g := lw_mem 635 (by decide +kernel) (by decide +kernel)
theorem lk_X5_139 : Cond.methodLink RX5 139 yX0_three ∈ lw_g := lw_mem 639 (by decide +kernel) (by decide +kernel)
theorem lk_X5_142 : Cond.methodLink RX5 142 yX5_part ∈ lw_g := lw_mem 643 (by decide +kernel) (by decide +kernel)
theorem lf_X5_146 : Lf RX5 146 1 2 0 := ⟨lw_mem 163 (by decide +kernel) (by decide +kernel), by decide +kernel, by decide +kernel, by decide⟩
theorem lk_X5_147 : Cond.methodLink RX5 147 yX1_remove ∈ lw_g := lw_mem 647 (by decide +kernel) (by decide +kernel)
theorem lk_X5_151 : Cond.methodLink RX5 151 yX1_insert ∈ lw_g := lw_mem 648 (by decide +kernel) (by decide +kernel)
theorem lk_X5_154 : Cond.methodLink RX5 154 yX5_times ∈ lw_g := lw_mem 1082 (by decide +kernel) (by decide +kernel)
set_option maxRecDepth 20000 in
theorem lc_X5_157 : LmM RX5 157 Lib.Math.max.name Lib.Math.max.code 2 := ⟨lw_mem 660 (by decide +kernel) (by decide +kernel), lw_mem 661 (by decide +kernel) (by decide +kernel), lw_mem 121 (by decide +kernel) (by decide +kernel), lw_mem 662 rfl rfl⟩
theorem lk_X5_160 : Cond.methodLink RX5 160 yX5_hasAt ∈ lw_g := lw_mem 1191 (by decide +kernel) (by decide +kernel)
theorem lf_X6_9 : Lf RX6 9 6 0 2 := ⟨lw_mem 466 (by decide +kernel) (by decide +kernel), by decide +kernel, by decide +kernel, by decide⟩
theorem lf_X6_15 : Lf RX6 15 6 1 2 := ⟨lw_mem 467 (by decide +kernel) (by decide +kernel), by decide +kernel, by decide +kernel, by decide⟩
theorem lk_X6_18 : Cond.methodLink RX6 18 yX6_clear ∈ lw_g := lw_mem 697 (by decide +kernel) (by decide +kernel)
theorem lk_X6_21 : Cond.methodLink RX6 21 yX6_takeFrom ∈ lw_g := lw_mem 701 (by decide +kernel) (by decide +kernel)
theorem lf_X6_25 : Lf RX6 25 10 9 0 := ⟨lw_mem 218 (by decide +kernel) (by decide +kernel), by decide +kernel, by decide +kernel, by decide⟩
theorem lk_X6_31 : Cond.methodLink RX6 31 yX6_whole ∈ lw_g := lw_mem 693 (by decide +kernel) (by decide +kernel)
theorem lc_X6_35 : LmC RX6 35 := ⟨lw_mem 706 (by decide +kernel) (by decide +kernel), lw_mem 564 (by decide +kernel) (by decide +kernel), lw_mem 563 (by decide +kernel) (by decide +kernel), lw_mem 126 (by decide +kernel) (by decide +kernel)⟩
theorem lf_X6_41 : Lf RX6 41 5 3 0 := ⟨lw_mem 340 (by decide +kernel) (by decide +kernel), by decide +kernel, by decide +kernel, by decide⟩
theorem lf_X6_46 : Lf RX6 46 10 8 2 := ⟨lw_mem 214 (by decide +kernel) (by decide +kernel), by decide +kernel, by decide +kernel, by decide⟩
theorem lf_X6_49 : Lf RX6 49 5 0 2 := ⟨lw_mem 330 (by decide +kernel) (by decide +kernel), by decide +kernel, by decide +kernel, by decide⟩
set_option maxRecDepth 20000 in
theorem lc_X6_52 : LmM RX6 52 Lib.Math.max.name Lib.Math.max.code 2 := ⟨lw_mem 705 (by decide +kernel) (by decide +kernel), lw_mem 661 (by decide +kernel) (by decide +kernel), lw_mem 121 (by decide +kernel) (by decide +kernel), lw_mem 662 rfl rfl⟩
set_option maxRecDepth 20000 in
theorem lc_X6_58 : LmM RX6 58 Lib.Math.min.name Lib.Math.min.code 2 := ⟨lw_mem 1242 (by decide +kernel) (by decide +kernel), lw_mem 864 (by decide +kernel) (by decide +kernel), lw_mem 121 (by decide +kernel) (by decide +kernel), lw_mem 865 rfl rfl⟩
theorem lf_X7_12 : Lf RX7 12 7 0 3 := ⟨lw_mem 284 (by decide +kernel) (by decide +kernel), by decide +kernel, by decide +kernel, by decide⟩
theorem lp_7_0 : Lp 7 0 (.object "TownTune$Town") := ⟨by decide +kernel, by decide +kernel⟩
theorem lf_X7_21 : Lf RX7 21 7 1 2 := ⟨lw_mem 287 (by decide +kernel) (by decide +kernel), by decide +kernel, by decide +kernel, by decide⟩
theorem lf_X7_25 : Lf RX7 25 7 2 0 := ⟨lw_mem 288 (by decide +kernel) (by decide +kernel), by decide +kernel, by decide +kernel, by decide⟩
theorem lp_7_2 : Lp 7 2 .int := ⟨by decide +kernel, by decide +kernel⟩
theorem lf_X7_29 : Lf RX7 29 7 3 0 := ⟨lw_mem 289 (by decide +kernel) (by decide +kernel), by decide +kernel, by decide +kernel, by decide⟩
theorem lp_7_3 : Lp 7 3 .int := ⟨by decide +kernel, by decide +kernel⟩
theorem lf_X7_32 : Lf RX7 32 7 4 1 := ⟨lw_mem 291 (by decide +kernel) (by decide +kernel), by decide +kernel, by decide +kernel, by decide⟩
theorem lp_7_4 : Lp 7 4 .boolean := ⟨by decide +kernel, by decide +kernel⟩
theorem lf_X7_36 : Lf RX7 36 7 5 1 := ⟨lw_mem 292 (by decide +kernel) (by decide +kernel), by decide +kernel, by decide +kernel, by decide⟩
theorem lp_7_5 : Lp 7 5 .boolean := ⟨by decide +kernel, by decide +kernel⟩
theorem lf_X7_39 : Lf RX7 39 7 6 1 := ⟨lw_mem 293 (by decide +kernel) (by decide +kernel), by decide +kernel, by decide +kernel, by decide⟩
theorem lp_7_6 : Lp 7 6 .boolean := ⟨by decide +kernel, by decide +kernel⟩
theorem lf_X7_42 : Lf RX7 42 7 7 2 := ⟨lw_mem 294 (by decide +kernel) (by decide +kernel), by decide +kernel, by decide +kernel, by decide⟩
theorem lf_X7_46 : Lf RX7 46 7 8 0 := ⟨lw_mem 295 (by decide +kernel) (by decide +kernel), by decide +kernel, by decide +kernel, by decide⟩
theorem lp_7_8 : Lp 7 8 .int := ⟨by decide +kernel, by decide +kernel⟩
theorem lf_X7_49 : Lf RX7 49 7 9 0 := ⟨lw_mem 296 (by decide +kernel) (by decide +kernel), by decide +kernel, by decide +kernel, by decide⟩
theorem lp_7_9 : Lp 7 9 .int := ⟨by decide +kernel, by decide +kernel⟩
theorem lk_X7_52 : Cond.methodLink RX7 52 yX10_clear ∈ lw_g := lw_mem 855 (by decide +kernel) (by decide +kernel)
theorem lk_X7_55 : Cond.methodLink RX7 55 yX9_begin ∈ lw_g := lw_mem 859 (by decide +kernel) (by decide +kernel)
theorem lf_X7_59 : Lf RX7 59 9 4 0 := ⟨lw_mem 259 (by decide +kernel) (by decide +kernel), by decide +kernel, by decide +kernel, by decide⟩
theorem lk_X7_62 : Cond.methodLink RX7 62 yX7_readLine ∈ lw_g := lw_mem 963 (by decide +kernel) (by decide +kernel)
theorem lk_X7_66 : Cond.methodLink RX7 66 yX10_sortByBirthdays ∈ lw_g := lw_mem 1058 (by decide +kernel) (by decide +kernel)
theorem lf_X7_69 : Lf RX7 69 9 5 0 := ⟨lw_mem 261 (by decide +kernel) (by decide +kernel), by decide +kernel, by decide +kernel, by decide⟩
theorem lk_X7_72 : Cond.methodLink RX7 72 yX7_readPerson ∈ lw_g := lw_mem 967 (by decide +kernel) (by decide +kernel)
theorem lk_X7_76 : Cond.methodLink RX7 76 yX7_readEnd ∈ lw_g := lw_mem 988 (by decide +kernel) (by decide +kernel)
theorem lk_X7_79 : Cond.methodLink RX7 79 yX7_readKey ∈ lw_g := lw_mem 992 (by decide +kernel) (by decide +kernel)
theorem lk_X7_82 : Cond.methodLink RX7 82 yX7_readFeud ∈ lw_g := lw_mem 996 (by decide +kernel) (by decide +kernel)
theorem lk_X7_85 : Cond.methodLink RX7 85 yX7_readOther ∈ lw_g := lw_mem 1006 (by decide +kernel) (by decide +kernel)
theorem lk_X7_88 : Cond.methodLink RX7 88 yX7_readSings ∈ lw_g := lw_mem 1010 (by decide +kernel) (by decide +kernel)
theorem lk_X7_91 : Cond.methodLink RX7 91 yX7_refuse ∈ lw_g := lw_mem 971 (by decide +kernel) (by decide +kernel)
theorem lk_X7_94 : Cond.methodLink RX7 94 yX9_next ∈ lw_g := lw_mem 975 (by decide +kernel) (by decide +kernel)
theorem lf_X7_97 : Lf RX7 97 9 7 0 := ⟨lw_mem 265 (by decide +kernel) (by decide +kernel), by decide +kernel, by decide +kernel, by decide⟩
theorem lf_X7_100 : Lf RX7 100 9 6 0 := ⟨lw_mem 263 (by decide +kernel) (by decide +kernel), by decide +kernel, by decide +kernel, by decide⟩
theorem lf_X7_103 : Lf RX7 103 10 0 0 := ⟨lw_mem 194 (by decide +kernel) (by decide +kernel), by decide +kernel, by decide +kernel, by decide⟩
theorem lk_X7_106 : Cond.methodLink RX7 106 yX7_isNumber ∈ lw_g := lw_mem 976 (by decide +kernel) (by decide +kernel)
theorem lk_X7_110 : Cond.methodLink RX7 110 yX10_hasBirthday ∈ lw_g := lw_mem 980 (by decide +kernel) (by decide +kernel)
theorem lk_X7_113 : Cond.methodLink RX7 113 yX10_add ∈ lw_g := lw_mem 984 (by decide +kernel) (by decide +kernel)
theorem lf_X7_117 : Lf RX7 117 10 6 0 := ⟨lw_mem 209 (by decide +kernel) (by decide +kernel), by decide +kernel, by decide +kernel, by decide⟩
theorem lp_10_6 : Lp 10 6 .int := ⟨by decide +kernel, by decide +kernel⟩
theorem lf_X7_120 : Lf RX7 120 10 7 2 := ⟨lw_mem 212 (by decide +kernel) (by decide +kernel), by decide +kernel, by decide +kernel, by decide⟩
theorem lf_X7_124 : Lf RX7 124 1 2 0 := ⟨lw_mem 162 (by decide +kernel) (by decide +kernel), by decide +kernel, by decide +kernel, by decide⟩
theorem lk_X7_129 : Cond.methodLink RX7 129 yX7_isToldPerson ∈ lw_g := lw_mem 1000 (by decide +kernel) (by decide +kernel)
theorem lk_X7_132 : Cond.methodLink RX7 132 yX1_between ∈ lw_g := lw_mem 1004 (by decide +kernel) (by decide +kernel)
theorem lk_X7_135 : Cond.methodLink RX7 135 yX1_insert ∈ lw_g := lw_mem 1005 (by decide +kernel) (by decide +kernel)
theorem lf_X7_139 : Lf RX7 139 10 8 2 := ⟨lw_mem 215 (by decide +kernel) (by decide +kernel), by decide +kernel, by decide +kernel, by decide⟩
theorem lf_X7_142 : Lf RX7 142 10 9 0 := ⟨lw_mem 220 (by decide +kernel) (by decide +kernel), by decide +kernel, by decide +kernel, by decide⟩
theorem lp_10_9 : Lp 10 9 .int := ⟨by decide +kernel, by decide +kernel⟩
theorem lk_X7_145 : Cond.methodLink RX7 145 yX7_isRuleEnd ∈ lw_g := lw_mem 1014 (by decide +kernel) (by decide +kernel)
theorem lk_X7_148 : Cond.methodLink RX7 148 yX7_takePart ∈ lw_g := lw_mem 1018 (by decide +kernel) (by decide +kernel)
theorem lk_X7_151 : Cond.methodLink RX7 151 yX7_takeOperator ∈ lw_g := lw_mem 1046 (by decide +kernel) (by decide +kernel)
theorem lk_X7_154 : Cond.methodLink RX7 154 yX7_closeDownTo ∈ lw_g := lw_mem 1050 (by decide +kernel) (by decide +kernel)
theorem lk_X7_157 : Cond.methodLink RX7 157 yX9_isWord ∈ lw_g := lw_mem 1022 (by decide +kernel) (by decide +kernel)
theorem lk_X7_160 : Cond.methodLink RX7 160 yX7_lastOpen ∈ lw_g := lw_mem 1026 (by decide +kernel) (by decide +kernel)
theorem lf_X7_164 : Lf RX7 164 10 10 2 := ⟨lw_mem 223 (by decide +kernel) (by decide +kernel), by decide +kernel, by decide +kernel, by decide⟩
theorem lk_X7_168 : Cond.methodLink RX7 168 yX8_put ∈ lw_g := lw_mem 1030 (by decide +kernel) (by decide +kernel)
theorem lk_X7_173 : Cond.methodLink RX7 173 yX7_pushOpen ∈ lw_g := lw_mem 1034 (by decide +kernel) (by decide +kernel)
theorem lk_X7_176 : Cond.methodLink RX7 176 yX7_mayBeNot ∈ lw_g := lw_mem 1038 (by decide +kernel) (by decide +kernel)
theorem lk_X7_179 : Cond.methodLink RX7 179 yX7_takeNot ∈ lw_g := lw_mem 1042 (by decide +kernel) (by decide +kernel)
set_option maxRecDepth 20000 in
theorem lc_X7_182 : LmM RX7 182 Lib.Math.max.name Lib.Math.max.code 2 := ⟨lw_mem 1057 (by decide +kernel) (by decide +kernel), lw_mem 661 (by decide +kernel) (by decide +kernel), lw_mem 121 (by decide +kernel) (by decide +kernel), lw_mem 662 rfl rfl⟩
theorem lk_X7_188 : Cond.methodLink RX7 188 yX7_binding ∈ lw_g := lw_mem 1054 (by decide +kernel) (by decide +kernel)
theorem lf_X8_9 : Lf RX8 9 8 0 2 := ⟨lw_mem 178 (by decide +kernel) (by decide +kernel), by decide +kernel, by decide +kernel, by decide⟩
theorem lf_X8_15 : Lf RX8 15 8 1 0 := ⟨lw_mem 179 (by decide +kernel) (by decide +kernel), by decide +kernel, by decide +kernel, by decide⟩
theorem lp_8_1 : Lp 8 1 .int := ⟨by decide +kernel, by decide +kernel⟩
theorem lf_X8_19 : Lf RX8 19 8 2 2 := ⟨lw_mem 182 (by decide +kernel) (by decide +kernel), by decide +kernel, by decide +kernel, by decide⟩
theorem lk_X8_22 : Cond.methodLink RX8 22 yX5_valueOf ∈ lw_g := lw_mem 584 (by decide +kernel) (by decide +kernel)
theorem lk_X8_28 : Cond.methodLink RX8 28 yX8_apply ∈ lw_g := lw_mem 588 (by decide +kernel) (by decide +kernel)
theorem lf_X9_9 : Lf RX9 9 9 0 2 := ⟨lw_mem 253 (by decide +kernel) (by decide +kernel), by decide +kernel, by decide +kernel, by decide⟩
theorem lf_X9_15 : Lf RX9 15 9 1 0 := ⟨lw_mem 254 (by decide +kernel) (by decide +kernel), by decide +kernel, by decide +kernel, by decide⟩
theorem lp_9_1 : Lp 9 1 .int := ⟨by decide +kernel, by decide +kernel⟩
theorem lf_X9_19 : Lf RX9 19 9 2 0 := ⟨lw_mem 256 (by decide +kernel) (by decide +kernel), by decide +kernel, by decide +kernel, by decide⟩
theorem lp_9_2 : Lp 9 2 .int := ⟨by decide +kernel, by decide +kernel⟩
theorem lf_X9_22 : Lf RX9 22 9 3 0 := ⟨lw_mem 257 (by decide +kernel) (by decide +kernel), by decide +kernel, by decide +kernel, by decide⟩
theorem lp_9_3 : Lp 9 3 .int := ⟨by decide +kernel, by decide +kernel⟩
theorem lf_X9_25 : Lf RX9 25 9 4 0 := ⟨lw_mem 258 (by decide +kernel) (by decide +kernel), by decide +kernel, by decide +kernel, by decide⟩
theorem lp_9_4 : Lp 9 4 .int := ⟨by decide +kernel, by decide +kernel⟩
theorem lf_X9_28 : Lf RX9 28 9 5 0 := ⟨lw_mem 260 (by decide +kernel) (by decide +kernel), by decide +kernel, by decide +kernel, by decide⟩
theorem lp_9_5 : Lp 9 5 .int := ⟨by decide +kernel, by decide +kernel⟩
theorem lf_X9_31 : Lf RX9 31 9 6 0 := ⟨lw_mem 262 (by decide +kernel) (by decide +kernel), by decide +kernel, by decide +kernel, by decide⟩
theorem lp_9_6 : Lp 9 6 .int := ⟨by decide +kernel, by decide +kernel⟩
theorem lf_X9_34 : Lf RX9 34 9 7 0 := ⟨lw_mem 264 (by decide +kernel) (by decide +kernel), by decide +kernel, by decide +kernel, by decide⟩
theorem lp_9_7 : Lp 9 7 .int := ⟨by decide +kernel, by decide +kernel⟩
set_option maxRecDepth 20000 in
theorem lc_X9_37 : LmM RX9 37 Lib.Math.min.name Lib.Math.min.code 2 := ⟨lw_mem 863 (by decide +kernel) (by decide +kernel), lw_mem 864 (by decide +kernel) (by decide +kernel), lw_mem 121 (by decide +kernel) (by decide +kernel), lw_mem 865 rfl rfl⟩
theorem lk_X9_43 : Cond.methodLink RX9 43 yX9_next ∈ lw_g := lw_mem 866 (by decide +kernel) (by decide +kernel)
theorem lk_X9_46 : Cond.methodLink RX9 46 yX9_isBlank ∈ lw_g := lw_mem 870 (by decide +kernel) (by decide +kernel)
theorem lk_X9_50 : Cond.methodLink RX9 50 yX9_isLetter ∈ lw_g := lw_mem 873 (by decide +kernel) (by decide +kernel)
theorem lk_X9_53 : Cond.methodLink RX9 53 yX9_passLetters ∈ lw_g := lw_mem 876 (by decide +kernel) (by decide +kernel)
theorem lk_X9_56 : Cond.methodLink RX9 56 yX9_wordKind ∈ lw_g := lw_mem 880 (by decide +kernel) (by decide +kernel)
theorem lk_X9_60 : Cond.methodLink RX9 60 yX9_isDigit ∈ lw_g := lw_mem 953 (by decide +kernel) (by decide +kernel)
theorem lk_X9_63 : Cond.methodLink RX9 63 yX9_readNumber ∈ lw_g := lw_mem 956 (by decide +kernel) (by decide +kernel)
theorem lk_X9_66 : Cond.methodLink RX9 66 yX9_isSign ∈ lw_g := lw_mem 960 (by decide +kernel) (by decide +kernel)
theorem lk_X9_71 : Cond.methodLink RX9 71 yX9_spells ∈ lw_g := lw_mem 885 (by decide +kernel) (by decide +kernel)
theorem lk_X9_106 : Cond.methodLink RX9 106 yJ0_length_8abf5 ∈ lw_g := lw_mem 889 (by decide +kernel) (by decide +kernel)
theorem lk_X9_110 : Cond.methodLink RX9 110 yJ0_charAt_5068e ∈ lw_g := lw_mem 899 (by decide +kernel) (by decide +kernel)
theorem lf_X10_9 : Lf RX10 9 10 0 0 := ⟨lw_mem 190 (by decide +kernel) (by decide +kernel), by decide +kernel, by decide +kernel, by decide⟩
theorem lp_10_0 : Lp 10 0 .int := ⟨by decide +kernel, by decide +kernel⟩
theorem lf_X10_15 : Lf RX10 15 10 1 2 := ⟨lw_mem 195 (by decide +kernel) (by decide +kernel), by decide +kernel, by decide +kernel, by decide⟩
theorem lf_X10_19 : Lf RX10 19 10 2 2 := ⟨lw_mem 198 (by decide +kernel) (by decide +kernel), by decide +kernel, by decide +kernel, by decide⟩
theorem lf_X10_22 : Lf RX10 22 10 3 2 := ⟨lw_mem 200 (by decide +kernel) (by decide +kernel), by decide +kernel, by decide +kernel, by decide⟩
theorem lf_X10_25 : Lf RX10 25 10 4 2 := ⟨lw_mem 202 (by decide +kernel) (by decide +kernel), by decide +kernel, by decide +kernel, by decide⟩
theorem lf_X10_28 : Lf RX10 28 10 5 2 := ⟨lw_mem 205 (by decide +kernel) (by decide +kernel), by decide +kernel, by decide +kernel, by decide⟩
theorem lf_X10_31 : Lf RX10 31 10 6 0 := ⟨lw_mem 207 (by decide +kernel) (by decide +kernel), by decide +kernel, by decide +kernel, by decide⟩
theorem lf_X10_37 : Lf RX10 37 10 7 2 := ⟨lw_mem 210 (by decide +kernel) (by decide +kernel), by decide +kernel, by decide +kernel, by decide⟩
theorem lf_X10_41 : Lf RX10 41 10 8 2 := ⟨lw_mem 213 (by decide +kernel) (by decide +kernel), by decide +kernel, by decide +kernel, by decide⟩
theorem lf_X10_44 : Lf RX10 44 10 9 0 := ⟨lw_mem 217 (by decide +kernel) (by decide +kernel), by decide +kernel, by decide +kernel, by decide⟩
theorem lf_X10_50 : Lf RX10 50 10 10 2 := ⟨lw_mem 221 (by decide +kernel) (by decide +kernel), by decide +kernel, by decide +kernel, by decide⟩
theorem lf_X10_54 : Lf RX10 54 1 2 0 := ⟨lw_mem 160 (by decide +kernel) (by decide +kernel), by decide +kernel, by decide +kernel, by decide⟩
theorem lf_X10_57 : Lf RX10 57 8 1 0 := ⟨lw_mem 180 (by decide +kernel) (by decide +kernel), by decide +kernel, by decide +kernel, by decide⟩
theorem lk_X10_58 : Cond.methodLink RX10 58 yX10_rank ∈ lw_g := lw_mem 1062 (by decide +kernel) (by decide +kernel)
theorem lf_X11_10 : Lf RX11 10 11 0 2 := ⟨lw_mem 498 (by decide +kernel) (by decide +kernel), by decide +kernel, by decide +kernel, by decide⟩
theorem lf_X11_16 : Lf RX11 16 7 1 2 := ⟨lw_mem 286 (by decide +kernel) (by decide +kernel), by decide +kernel, by decide +kernel, by decide⟩
theorem lf_X11_20 : Lf RX11 20 11 1 2 := ⟨lw_mem 499 (by decide +kernel) (by decide +kernel), by decide +kernel, by decide +kernel, by decide⟩
theorem lf_X11_26 : Lf RX11 26 11 2 3 := ⟨lw_mem 500 (by decide +kernel) (by decide +kernel), by decide +kernel, by decide +kernel, by decide⟩
theorem lp_11_2 : Lp 11 2 (.object "TownTune$Town") := ⟨by decide +kernel, by decide +kernel⟩
theorem lf_X11_33 : Lf RX11 33 11 3 2 := ⟨lw_mem 501 (by decide +kernel) (by decide +kernel), by decide +kernel, by decide +kernel, by decide⟩
theorem lf_X11_40 : Lf RX11 40 11 4 2 := ⟨lw_mem 502 (by decide +kernel) (by decide +kernel), by decide +kernel, by decide +kernel, by decide⟩
theorem lf_X11_47 : Lf RX11 47 11 5 2 := ⟨lw_mem 503 (by decide +kernel) (by decide +kernel), by decide +kernel, by decide +kernel, by decide⟩
theorem lf_X11_51 : Lf RX11 51 11 6 2 := ⟨lw_mem 504 (by decide +kernel) (by decide +kernel), by decide +kernel, by decide +kernel, by decide⟩
theorem lf_X11_58 : Lf RX11 58 11 7 2 := ⟨lw_mem 505 (by decide +kernel) (by decide +kernel), by decide +kernel, by decide +kernel, by decide⟩
theorem lf_X11_62 : Lf RX11 62 11 8 2 := ⟨lw_mem 506 (by decide +kernel) (by decide +kernel), by decide +kernel, by decide +kernel, by decide⟩
theorem lf_X11_68 : Lf RX11 68 11 9 2 := ⟨lw_mem 507 (by decide +kernel) (by decide +kernel), by decide +kernel, by decide +kernel, by decide⟩
theorem lf_X11_75 : Lf RX11 75 11 10 2 := ⟨lw_mem 508 (by decide +kernel) (by decide +kernel), by decide +kernel, by decide +kernel, by decide⟩
theorem lf_X11_79 : Lf RX11 79 11 11 2 := ⟨lw_mem 509 (by decide +kernel) (by decide +kernel), by decide +kernel, by decide +kernel, by decide⟩
theorem lf_X11_82 : Lf RX11 82 11 12 2 := ⟨lw_mem 510 (by decide +kernel) (by decide +kernel), by decide +kernel, by decide +kernel, by decide⟩
theorem lf_X11_85 : Lf RX11 85 9 1 0 := ⟨lw_mem 255 (by decide +kernel) (by decide +kernel), by decide +kernel, by decide +kernel, by decide⟩
theorem lk_X11_91 : Cond.methodLink RX11 91 yX9_addFour ∈ lw_g := lw_mem 542 (by decide +kernel) (by decide +kernel)
theorem lk_X11_102 : Cond.methodLink RX11 102 yX7_read ∈ lw_g := lw_mem 851 (by decide +kernel) (by decide +kernel)
theorem lf_X11_106 : Lf RX11 106 7 0 3 := ⟨lw_mem 285 (by decide +kernel) (by decide +kernel), by decide +kernel, by decide +kernel, by decide⟩
theorem lk_X11_109 : Cond.methodLink RX11 109 yX5_begin ∈ lw_g := lw_mem 1066 (by decide +kernel) (by decide +kernel)
theorem lf_X11_113 : Lf RX11 113 0 1 0 := ⟨lw_mem 404 (by decide +kernel) (by decide +kernel), by decide +kernel, by decide +kernel, by decide⟩
theorem lf_X11_116 : Lf RX11 116 3 2 0 := ⟨lw_mem 419 (by decide +kernel) (by decide +kernel), by decide +kernel, by decide +kernel, by decide⟩
theorem lf_X11_117 : Lf RX11 117 4 0 1 := ⟨lw_mem 440 (by decide +kernel) (by decide +kernel), by decide +kernel, by decide +kernel, by decide⟩
theorem lf_X11_121 : Lf RX11 121 7 3 0 := ⟨lw_mem 290 (by decide +kernel) (by decide +kernel), by decide +kernel, by decide +kernel, by decide⟩
theorem lf_X11_124 : Lf RX11 124 10 0 0 := ⟨lw_mem 193 (by decide +kernel) (by decide +kernel), by decide +kernel, by decide +kernel, by decide⟩
theorem lf_X11_127 : Lf RX11 127 5 14 2 := ⟨lw_mem 364 (by decide +kernel) (by decide +kernel), by decide +kernel, by decide +kernel, by decide⟩
theorem lf_X11_131 : Lf RX11 131 1 2 0 := ⟨lw_mem 161 (by decide +kernel) (by decide +kernel), by decide +kernel, by decide +kernel, by decide⟩
theorem lf_X11_134 : Lf RX11 134 5 5 0 := ⟨lw_mem 345 (by decide +kernel) (by decide +kernel), by decide +kernel, by decide +kernel, by decide⟩
theorem lf_X11_137 : Lf RX11 137 5 4 0 := ⟨lw_mem 342 (by decide +kernel) (by decide +kernel), by decide +kernel, by decide +kernel, by decide⟩
theorem lf_X11_140 : Lf RX11 140 5 3 0 := ⟨lw_mem 339 (by decide +kernel) (by decide +kernel), by decide +kernel, by decide +kernel, by decide⟩
theorem lf_X11_143 : Lf RX11 143 10 9 0 := ⟨lw_mem 219 (by decide +kernel) (by decide +kernel), by decide +kernel, by decide +kernel, by decide⟩
theorem lk_X11_146 : Cond.methodLink RX11 146 yX5_rests ∈ lw_g := lw_mem 1078 (by decide +kernel) (by decide +kernel)
theorem lf_X11_150 : Lf RX11 150 5 6 0 := ⟨lw_mem 348 (by decide +kernel) (by decide +kernel), by decide +kernel, by decide +kernel, by decide⟩
theorem lf_X11_153 : Lf RX11 153 5 7 0 := ⟨lw_mem 351 (by decide +kernel) (by decide +kernel), by decide +kernel, by decide +kernel, by decide⟩
theorem lf_X11_156 : Lf RX11 156 5 8 0 := ⟨lw_mem 353 (by decide +kernel) (by decide +kernel), by decide +kernel, by decide +kernel, by decide⟩
theorem lk_X11_164 : Cond.methodLink RX11 164 yX11_needPerson ∈ lw_g := lw_mem 1106 (by decide +kernel) (by decide +kernel)
theorem lf_X11_167 : Lf RX11 167 10 1 2 := ⟨lw_mem 197 (by decide +kernel) (by decide +kernel), by decide +kernel, by decide +kernel, by decide⟩
theorem lf_X11_170 : Lf RX11 170 5 11 2 := ⟨lw_mem 359 (by decide +kernel) (by decide +kernel), by decide +kernel, by decide +kernel, by decide⟩
theorem lf_X11_173 : Lf RX11 173 10 3 2 := ⟨lw_mem 201 (by decide +kernel) (by decide +kernel), by decide +kernel, by decide +kernel, by decide⟩
theorem lf_X11_176 : Lf RX11 176 10 4 2 := ⟨lw_mem 204 (by decide +kernel) (by decide +kernel), by decide +kernel, by decide +kernel, by decide⟩
theorem lf_X11_179 : Lf RX11 179 5 13 2 := ⟨lw_mem 362 (by decide +kernel) (by decide +kernel), by decide +kernel, by decide +kernel, by decide⟩
theorem lk_X11_182 : Cond.methodLink RX11 182 yX10_rank ∈ lw_g := lw_mem 1111 (by decide +kernel) (by decide +kernel)
theorem lk_X11_185 : Cond.methodLink RX11 185 yX1_of ∈ lw_g := lw_mem 1112 (by decide +kernel) (by decide +kernel)
theorem lk_X11_190 : Cond.methodLink RX11 190 yX11_isPerson ∈ lw_g := lw_mem 720 (by decide +kernel) (by decide +kernel)
theorem lk_X11_198 : Cond.methodLink RX11 198 yX11_needWhat ∈ lw_g := lw_mem 1124 (by decide +kernel) (by decide +kernel)
theorem lk_X11_202 : Cond.methodLink RX11 202 yX1_has ∈ lw_g := lw_mem 602 (by decide +kernel) (by decide +kernel)
theorem lf_X11_207 : Lf RX11 207 1 0 2 := ⟨lw_mem 156 (by decide +kernel) (by decide +kernel), by decide +kernel, by decide +kernel, by decide⟩
theorem lf_X11_210 : Lf RX11 210 1 1 2 := ⟨lw_mem 158 (by decide +kernel) (by decide +kernel), by decide +kernel, by decide +kernel, by decide⟩
theorem lf_X11_215 : Lf RX11 215 5 0 2 := ⟨lw_mem 331 (by decide +kernel) (by decide +kernel), by decide +kernel, by decide +kernel, by decide⟩
theorem lf_X11_218 : Lf RX11 218 5 1 2 := ⟨lw_mem 333 (by decide +kernel) (by decide +kernel), by decide +kernel, by decide +kernel, by decide⟩
theorem lf_X11_221 : Lf RX11 221 5 2 2 := ⟨lw_mem 335 (by decide +kernel) (by decide +kernel), by decide +kernel, by decide +kernel, by decide⟩
theorem lf_X11_224 : Lf RX11 224 10 8 2 := ⟨lw_mem 216 (by decide +kernel) (by decide +kernel), by decide +kernel, by decide +kernel, by decide⟩
theorem lk_X11_227 : Cond.methodLink RX11 227 yX11_refuseAct ∈ lw_g := lw_mem 554 (by decide +kernel) (by decide +kernel)
theorem lk_X11_230 : Cond.methodLink RX11 230 yX0_keep ∈ lw_g := lw_mem 558 (by decide +kernel) (by decide +kernel)
theorem lk_X11_234 : Cond.methodLink RX11 234 yX5_passYear ∈ lw_g := lw_mem 565 (by decide +kernel) (by decide +kernel)
theorem lk_X11_237 : Cond.methodLink RX11 237 yX11_isIn ∈ lw_g := lw_mem 758 (by decide +kernel) (by decide +kernel)
theorem lk_X11_241 : Cond.methodLink RX11 241 yX5_mayMarry ∈ lw_g := lw_mem 732 (by decide +kernel) (by decide +kernel)
theorem lk_X11_244 : Cond.methodLink RX11 244 yX5_wed ∈ lw_g := lw_mem 724 (by decide +kernel) (by decide +kernel)
theorem lk_X11_247 : Cond.methodLink RX11 247 yX1_between ∈ lw_g := lw_mem 1172 (by decide +kernel) (by decide +kernel)
theorem lk_X11_250 : Cond.methodLink RX11 250 yX1_insert ∈ lw_g := lw_mem 1173 (by decide +kernel) (by decide +kernel)
theorem lk_X11_254 : Cond.methodLink RX11 254 yX1_remove ∈ lw_g := lw_mem 606 (by decide +kernel) (by decide +kernel)
theorem lk_X11_257 : Cond.methodLink RX11 257 yX5_takeBack ∈ lw_g := lw_mem 615 (by decide +kernel) (by decide +kernel)
theorem lk_X11_261 : Cond.methodLink RX11 261 yX11_spell ∈ lw_g := lw_mem 1181 (by decide +kernel) (by decide +kernel)
theorem lk_X11_264 : Cond.methodLink RX11 264 yX5_firstFrom ∈ lw_g := lw_mem 1187 (by decide +kernel) (by decide +kernel)
theorem lk_X11_268 : Cond.methodLink RX11 268 yX5_hasAt ∈ lw_g := lw_mem 1195 (by decide +kernel) (by decide +kernel)
theorem lk_X11_276 : Cond.methodLink RX11 276 yX11_meetLater ∈ lw_g := lw_mem 1203 (by decide +kernel) (by decide +kernel)
set_option maxRecDepth 20000 in
theorem lc_X11_279 : LmM RX11 279 Lib.Math.max.name Lib.Math.max.code 2 := ⟨lw_mem 671 (by decide +kernel) (by decide +kernel), lw_mem 661 (by decide +kernel) (by decide +kernel), lw_mem 121 (by decide +kernel) (by decide +kernel), lw_mem 662 rfl rfl⟩
theorem lk_X11_285 : Cond.methodLink RX11 285 yX5_risesFrom ∈ lw_g := lw_mem 656 (by decide +kernel) (by decide +kernel)
theorem lk_X11_292 : Cond.methodLink RX11 292 yX5_mirrored ∈ lw_g := lw_mem 667 (by decide +kernel) (by decide +kernel)
theorem lk_X11_295 : Cond.methodLink RX11 295 yX5_times ∈ lw_g := lw_mem 676 (by decide +kernel) (by decide +kernel)
theorem lk_X11_298 : Cond.methodLink RX11 298 yX6_whole ∈ lw_g := lw_mem 1237 (by decide +kernel) (by decide +kernel)
theorem lk_X11_302 : Cond.methodLink RX11 302 yX6_apart ∈ lw_g := lw_mem 1238 (by decide +kernel) (by decide +kernel)
theorem lk_X11_305 : Cond.methodLink RX11 305 yX5_copyTune ∈ lw_g := lw_mem 684 (by decide +kernel) (by decide +kernel)
theorem lk_X11_309 : Cond.methodLink RX11 309 yX5_copyRest ∈ lw_g := lw_mem 711 (by decide +kernel) (by decide +kernel)
theorem lk_X11_312 : Cond.methodLink RX11 312 yX5_passYearsTo ∈ lw_g := lw_mem 1250 (by decide +kernel) (by decide +kernel)
theorem lk_X11_318 : Cond.methodLink RX11 318 yJ6_bitCount_0f7a4 ∈ lw_g := lw_mem 752 (by decide +kernel) (by decide +kernel)
theorem lk_X11_323 : Cond.methodLink RX11 323 yX11_isQuiet ∈ lw_g := lw_mem 1270 (by decide +kernel) (by decide +kernel)
theorem lk_X11_326 : Cond.methodLink RX11 326 yX6_keep ∈ lw_g := lw_mem 689 (by decide +kernel) (by decide +kernel)
theorem lk_X11_329 : Cond.methodLink RX11 329 yX11_likeIfMarried ∈ lw_g := lw_mem 707 (by decide +kernel) (by decide +kernel)
theorem lk_X11_332 : Cond.methodLink RX11 332 yX6_further ∈ lw_g := lw_mem 728 (by decide +kernel) (by decide +kernel)
theorem lk_X11_336 : Cond.methodLink RX11 336 yX3_add ∈ lw_g := lw_mem 740 (by decide +kernel) (by decide +kernel)
theorem lk_X11_339 : Cond.methodLink RX11 339 yX11_wouldBeHeard ∈ lw_g := lw_mem 1281 (by decide +kernel) (by decide +kernel)
theorem lf_X11_342 : Lf RX11 342 5 9 0 := ⟨lw_mem 355 (by decide +kernel) (by decide +kernel), by decide +kernel, by decide +kernel, by decide⟩
theorem lk_X11_345 : Cond.methodLink RX11 345 yX3_furthest ∈ lw_g := lw_mem 1285 (by decide +kernel) (by decide +kernel)
theorem lk_X11_348 : Cond.methodLink RX11 348 yX3_allIn ∈ lw_g := lw_mem 1290 (by decide +kernel) (by decide +kernel)
set_option maxRecDepth 20000 in
theorem lc_X11_352 : LmM RX11 352 Lib.Math.min.name Lib.Math.min.code 2 := ⟨lw_mem 1301 (by decide +kernel) (by decide +kernel), lw_mem 864 (by decide +kernel) (by decide +kernel), lw_mem 121 (by decide +kernel) (by decide +kernel), lw_mem 865 rfl rfl⟩
theorem lk_X11_355 : Cond.methodLink RX11 355 yX11_gatherSigns ∈ lw_g := lw_mem 1302 (by decide +kernel) (by decide +kernel)
theorem lk_X11_360 : Cond.methodLink RX11 360 yX2_gather ∈ lw_g := lw_mem 1314 (by decide +kernel) (by decide +kernel)
theorem lk_X11_364 : Cond.methodLink RX11 364 yX2_tryAll ∈ lw_g := lw_mem 1322 (by decide +kernel) (by decide +kernel)
theorem lk_X11_368 : Cond.methodLink RX11 368 yX2_resting ∈ lw_g := lw_mem 1334 (by decide +kernel) (by decide +kernel)
theorem lk_X11_371 : Cond.methodLink RX11 371 yX2_firstResting ∈ lw_g := lw_mem 1342 (by decide +kernel) (by decide +kernel)
theorem lk_X11_374 : Cond.methodLink RX11 374 yX11_nextSeed ∈ lw_g := lw_mem 1353 (by decide +kernel) (by decide +kernel)
theorem lk_X11_377 : Cond.methodLink RX11 377 yX11_draw ∈ lw_g := lw_mem 1357 (by decide +kernel) (by decide +kernel)
theorem lk_X11_380 : Cond.methodLink RX11 380 yX5_befall ∈ lw_g := lw_mem 1360 (by decide +kernel) (by decide +kernel)
theorem lx_X11_383 : Cond.constant RX11 383 (1103515245 : Int32) ∈ lw_g := lw_mem 1356 (by decide +kernel) (by decide +kernel)
theorem lf_X11_384 : Lf RX11 384 4 1 2 := ⟨lw_mem 442 (by decide +kernel) (by decide +kernel), by decide +kernel, by decide +kernel, by decide⟩
theorem lf_X11_387 : Lf RX11 387 4 2 2 := ⟨lw_mem 444 (by decide +kernel) (by decide +kernel), by decide +kernel, by decide +kernel, by decide⟩
theorem lk_X11_388 : Cond.methodLink RX11 388 yX0_copy ∈ lw_g := lw_mem 763 (by decide +kernel) (by decide +kernel)
theorem lf_X11_392 : Lf RX11 392 4 3 2 := ⟨lw_mem 446 (by decide +kernel) (by decide +kernel), by decide +kernel, by decide +kernel, by decide⟩
theorem lk_X11_393 : Cond.methodLink RX11 393 yX3_copy ∈ lw_g := lw_mem 767 (by decide +kernel) (by decide +kernel)
theorem lf_X11_396 : Lf RX11 396 4 4 2 := ⟨lw_mem 448 (by decide +kernel) (by decide +kernel), by decide +kernel, by decide +kernel, by decide⟩
theorem lc_X11_397 : LmC RX11 397 := ⟨lw_mem 772 (by decide +kernel) (by decide +kernel), lw_mem 564 (by decide +kernel) (by decide +kernel), lw_mem 563 (by decide +kernel) (by decide +kernel), lw_mem 126 (by decide +kernel) (by decide +kernel)⟩
theorem lf_X12_19 : Lf RX12 19 12 0 2 := ⟨lw_mem 1383 (by decide +kernel) (by decide +kernel), by decide +kernel, by decide +kernel, by decide⟩
theorem lf_X12_37 : Lf RX12 37 12 1 2 := ⟨lw_mem 1384 (by decide +kernel) (by decide +kernel), by decide +kernel, by decide +kernel, by decide⟩
theorem lf_X12_40 : Lf RX12 40 12 3 2 := ⟨lw_mem 1386 (by decide +kernel) (by decide +kernel), by decide +kernel, by decide +kernel, by decide⟩
theorem lf_X12_44 : Lf RX12 44 12 4 2 := ⟨lw_mem 1387 (by decide +kernel) (by decide +kernel), by decide +kernel, by decide +kernel, by decide⟩
theorem lf_X12_46 : Lf RX12 46 12 5 2 := ⟨lw_mem 1388 (by decide +kernel) (by decide +kernel), by decide +kernel, by decide +kernel, by decide⟩
theorem lf_X12_49 : Lf RX12 49 12 6 2 := ⟨lw_mem 1389 (by decide +kernel) (by decide +kernel), by decide +kernel, by decide +kernel, by decide⟩
theorem lf_X12_52 : Lf RX12 52 12 7 2 := ⟨lw_mem 1390 (by decide +kernel) (by decide +kernel), by decide +kernel, by decide +kernel, by decide⟩
theorem lf_X12_55 : Lf RX12 55 12 8 2 := ⟨lw_mem 1391 (by decide +kernel) (by decide +kernel), by decide +kernel, by decide +kernel, by decide⟩
theorem lf_X12_58 : Lf RX12 58 12 9 2 := ⟨lw_mem 1392 (by decide +kernel) (by decide +kernel), by decide +kernel, by decide +kernel, by decide⟩
theorem lf_X12_61 : Lf RX12 61 12 10 2 := ⟨lw_mem 1393 (by decide +kernel) (by decide +kernel), by decide +kernel, by decide +kernel, by decide⟩
theorem lf_X12_64 : Lf RX12 64 12 11 2 := ⟨lw_mem 1394 (by decide +kernel) (by decide +kernel), by decide +kernel, by decide +kernel, by decide⟩
theorem lf_X12_67 : Lf RX12 67 12 12 2 := ⟨lw_mem 1395 (by decide +kernel) (by decide +kernel), by decide +kernel, by decide +kernel, by decide⟩
theorem lf_X12_70 : Lf RX12 70 12 13 2 := ⟨lw_mem 1396 (by decide +kernel) (by decide +kernel), by decide +kernel, by decide +kernel, by decide⟩
theorem lf_X12_73 : Lf RX12 73 12 14 2 := ⟨lw_mem 1397 (by decide +kernel) (by decide +kernel), by decide +kernel, by decide +kernel, by decide⟩
theorem lf_X12_76 : Lf RX12 76 12 24 0 := ⟨lw_mem 1407 (by decide +kernel) (by decide +kernel), by decide +kernel, by decide +kernel, by decide⟩
theorem lp_12_24 : Lp 12 24 .int := ⟨by decide +kernel, by decide +kernel⟩
theorem lf_X12_80 : Lf RX12 80 12 25 2 := ⟨lw_mem 1408 (by decide +kernel) (by decide +kernel), by decide +kernel, by decide +kernel, by decide⟩
theorem lf_X12_82 : Lf RX12 82 12 26 2 := ⟨lw_mem 1409 (by decide +kernel) (by decide +kernel), by decide +kernel, by decide +kernel, by decide⟩
theorem lf_X12_84 : Lf RX12 84 12 27 2 := ⟨lw_mem 1410 (by decide +kernel) (by decide +kernel), by decide +kernel, by decide +kernel, by decide⟩
theorem lf_X12_87 : Lf RX12 87 12 28 2 := ⟨lw_mem 1411 (by decide +kernel) (by decide +kernel), by decide +kernel, by decide +kernel, by decide⟩
theorem lf_X12_90 : Lf RX12 90 12 29 2 := ⟨lw_mem 1412 (by decide +kernel) (by decide +kernel), by decide +kernel, by decide +kernel, by decide⟩
theorem lf_X12_93 : Lf RX12 93 12 39 2 := ⟨lw_mem 1422 (by decide +kernel) (by decide +kernel), by decide +kernel, by decide +kernel, by decide⟩
theorem lf_X12_96 : Lf RX12 96 12 40 2 := ⟨lw_mem 1423 (by decide +kernel) (by decide +kernel), by decide +kernel, by decide +kernel, by decide⟩
theorem lf_X12_99 : Lf RX12 99 12 41 2 := ⟨lw_mem 1424 (by decide +kernel) (by decide +kernel), by decide +kernel, by decide +kernel, by decide⟩
theorem lf_X12_102 : Lf RX12 102 12 42 2 := ⟨lw_mem 1425 (by decide +kernel) (by decide +kernel), by decide +kernel, by decide +kernel, by decide⟩
theorem lf_X12_105 : Lf RX12 105 12 43 2 := ⟨lw_mem 1426 (by decide +kernel) (by decide +kernel), by decide +kernel, by decide +kernel, by decide⟩
theorem lf_X12_108 : Lf RX12 108 12 44 0 := ⟨lw_mem 1427 (by decide +kernel) (by decide +kernel), by decide +kernel, by decide +kernel, by decide⟩
theorem lp_12_44 : Lp 12 44 .int := ⟨by decide +kernel, by decide +kernel⟩
theorem lf_X12_111 : Lf RX12 111 12 45 2 := ⟨lw_mem 1428 (by decide +kernel) (by decide +kernel), by decide +kernel, by decide +kernel, by decide⟩
theorem lf_X12_114 : Lf RX12 114 12 48 2 := ⟨lw_mem 1431 (by decide +kernel) (by decide +kernel), by decide +kernel, by decide +kernel, by decide⟩
theorem lf_X12_117 : Lf RX12 117 12 49 2 := ⟨lw_mem 1432 (by decide +kernel) (by decide +kernel), by decide +kernel, by decide +kernel, by decide⟩
theorem lf_X12_120 : Lf RX12 120 12 50 2 := ⟨lw_mem 1433 (by decide +kernel) (by decide +kernel), by decide +kernel, by decide +kernel, by decide⟩
theorem lf_X12_123 : Lf RX12 123 12 51 2 := ⟨lw_mem 1434 (by decide +kernel) (by decide +kernel), by decide +kernel, by decide +kernel, by decide⟩
theorem lf_X12_126 : Lf RX12 126 12 52 2 := ⟨lw_mem 1435 (by decide +kernel) (by decide +kernel), by decide +kernel, by decide +kernel, by decide⟩
theorem lf_X12_129 : Lf RX12 129 12 53 2 := ⟨lw_mem 1436 (by decide +kernel) (by decide +kernel), by decide +kernel, by decide +kernel, by decide⟩
theorem lf_X12_132 : Lf RX12 132 12 54 2 := ⟨lw_mem 1437 (by decide +kernel) (by decide +kernel), by decide +kernel, by decide +kernel, by decide⟩
theorem lf_X12_135 : Lf RX12 135 12 55 2 := ⟨lw_mem 1438 (by decide +kernel) (by decide +kernel), by decide +kernel, by decide +kernel, by decide⟩
theorem lf_X12_138 : Lf RX12 138 12 56 2 := ⟨lw_mem 1439 (by decide +kernel) (by decide +kernel), by decide +kernel, by decide +kernel, by decide⟩
theorem lf_X12_141 : Lf RX12 141 12 61 2 := ⟨lw_mem 1444 (by decide +kernel) (by decide +kernel), by decide +kernel, by decide +kernel, by decide⟩
theorem lf_X12_144 : Lf RX12 144 12 62 2 := ⟨lw_mem 1445 (by decide +kernel) (by decide +kernel), by decide +kernel, by decide +kernel, by decide⟩
theorem lf_X12_147 : Lf RX12 147 12 63 2 := ⟨lw_mem 1446 (by decide +kernel) (by decide +kernel), by decide +kernel, by decide +kernel, by decide⟩
theorem lf_X12_150 : Lf RX12 150 12 64 2 := ⟨lw_mem 1447 (by decide +kernel) (by decide +kernel), by decide +kernel, by decide +kernel, by decide⟩
theorem lf_X12_153 : Lf RX12 153 12 65 2 := ⟨lw_mem 1448 (by decide +kernel) (by decide +kernel), by decide +kernel, by decide +kernel, by decide⟩
theorem lf_X12_156 : Lf RX12 156 12 66 2 := ⟨lw_mem 1449 (by decide +kernel) (by decide +kernel), by decide +kernel, by decide +kernel, by decide⟩
theorem lf_X12_159 : Lf RX12 159 12 67 2 := ⟨lw_mem 1450 (by decide +kernel) (by decide +kernel), by decide +kernel, by decide +kernel, by decide⟩
theorem lf_X12_162 : Lf RX12 162 12 68 2 := ⟨lw_mem 1451 (by decide +kernel) (by decide +kernel), by decide +kernel, by decide +kernel, by decide⟩
theorem lf_X12_165 : Lf RX12 165 12 2 0 := ⟨lw_mem 1385 (by decide +kernel) (by decide +kernel), by decide +kernel, by decide +kernel, by decide⟩
theorem lp_12_2 : Lp 12 2 .int := ⟨by decide +kernel, by decide +kernel⟩
theorem lk_X12_168 : Cond.methodLink RX12 168 yX12_isIn ∈ lw_g := lw_mem 1745 (by decide +kernel) (by decide +kernel)
theorem lf_X12_172 : Lf RX12 172 12 15 0 := ⟨lw_mem 1398 (by decide +kernel) (by decide +kernel), by decide +kernel, by decide +kernel, by decide⟩
theorem lp_12_15 : Lp 12 15 .int := ⟨by decide +kernel, by decide +kernel⟩
theorem lf_X12_175 : Lf RX12 175 12 17 0 := ⟨lw_mem 1400 (by decide +kernel) (by decide +kernel), by decide +kernel, by decide +kernel, by decide⟩
theorem lf_X12_178 : Lf RX12 178 12 16 0 := ⟨lw_mem 1399 (by decide +kernel) (by decide +kernel), by decide +kernel, by decide +kernel, by decide⟩
theorem lk_X12_181 : Cond.methodLink RX12 181 yX12_byteAt ∈ lw_g := lw_mem 1611 (by decide +kernel) (by decide +kernel)
theorem lp_12_16 : Lp 12 16 .int := ⟨by decide +kernel, by decide +kernel⟩
theorem lf_X12_185 : Lf RX12 185 12 20 0 := ⟨lw_mem 1403 (by decide +kernel) (by decide +kernel), by decide +kernel, by decide +kernel, by decide⟩
theorem lp_12_20 : Lp 12 20 .int := ⟨by decide +kernel, by decide +kernel⟩
theorem lf_X12_188 : Lf RX12 188 12 18 0 := ⟨lw_mem 1401 (by decide +kernel) (by decide +kernel), by decide +kernel, by decide +kernel, by decide⟩
theorem lp_12_18 : Lp 12 18 .int := ⟨by decide +kernel, by decide +kernel⟩
theorem lk_X12_191 : Cond.methodLink RX12 191 yX12_isLetter ∈ lw_g := lw_mem 1615 (by decide +kernel) (by decide +kernel)
theorem lk_X12_195 : Cond.methodLink RX12 195 yX12_isDigit ∈ lw_g := lw_mem 1618 (by decide +kernel) (by decide +kernel)
theorem lf_X12_198 : Lf RX12 198 12 19 0 := ⟨lw_mem 1402 (by decide +kernel) (by decide +kernel), by decide +kernel, by decide +kernel, by decide⟩
theorem lp_12_19 : Lp 12 19 .int := ⟨by decide +kernel, by decide +kernel⟩
theorem lx_X12_201 : Cond.constant RX12 201 (100000 : Int32) ∈ lw_g := lw_mem 1621 (by decide +kernel) (by decide +kernel)
set_option maxRecDepth 20000 in
theorem lc_X12_202 : LmM RX12 202 Lib.Math.min.name Lib.Math.min.code 2 := ⟨lw_mem 1622 (by decide +kernel) (by decide +kernel), lw_mem 864 (by decide +kernel) (by decide +kernel), lw_mem 121 (by decide +kernel) (by decide +kernel), lw_mem 865 rfl rfl⟩
theorem lk_X12_208 : Cond.methodLink RX12 208 yX12_isMark ∈ lw_g := lw_mem 1623 (by decide +kernel) (by decide +kernel)
theorem lf_X12_211 : Lf RX12 211 12 21 0 := ⟨lw_mem 1404 (by decide +kernel) (by decide +kernel), by decide +kernel, by decide +kernel, by decide⟩
theorem lp_12_21 : Lp 12 21 .int := ⟨by decide +kernel, by decide +kernel⟩
theorem lf_X12_214 : Lf RX12 214 12 22 0 := ⟨lw_mem 1405 (by decide +kernel) (by decide +kernel), by decide +kernel, by decide +kernel, by decide⟩
theorem lp_12_22 : Lp 12 22 .int := ⟨by decide +kernel, by decide +kernel⟩
theorem lf_X12_217 : Lf RX12 217 12 23 0 := ⟨lw_mem 1406 (by decide +kernel) (by decide +kernel), by decide +kernel, by decide +kernel, by decide⟩
theorem lp_12_23 : Lp 12 23 .int := ⟨by decide +kernel, by decide +kernel⟩
theorem lk_X12_220 : Cond.methodLink RX12 220 yJ0_length_8abf5 ∈ lw_g := lw_mem 1634 (by decide +kernel) (by decide +kernel)
theorem lk_X12_224 : Cond.methodLink RX12 224 yJ0_charAt_5068e ∈ lw_g := lw_mem 1635 (by decide +kernel) (by decide +kernel)
theorem lk_X12_228 : Cond.methodLink RX12 228 yX12_is ∈ lw_g := lw_mem 1630 (by decide +kernel) (by decide +kernel)
theorem lk_X12_232 : Cond.methodLink RX12 232 yX12_isMarked ∈ lw_g := lw_mem 1662 (by decide +kernel) (by decide +kernel)
theorem lk_X12_235 : Cond.methodLink RX12 235 yX12_wrong ∈ lw_g := lw_mem 1642 (by decide +kernel) (by decide +kernel)
theorem lk_X12_239 : Cond.methodLink RX12 239 yX12_stepOn ∈ lw_g := lw_mem 1607 (by decide +kernel) (by decide +kernel)
theorem lk_X12_242 : Cond.methodLink RX12 242 yX12_numberNow ∈ lw_g := lw_mem 1650 (by decide +kernel) (by decide +kernel)
theorem lk_X12_245 : Cond.methodLink RX12 245 yX12_readNumber ∈ lw_g := lw_mem 1646 (by decide +kernel) (by decide +kernel)
theorem lk_X12_248 : Cond.methodLink RX12 248 yX12_lay ∈ lw_g := lw_mem 1687 (by decide +kernel) (by decide +kernel)
theorem lk_X12_251 : Cond.methodLink RX12 251 yX12_which ∈ lw_g := lw_mem 1638 (by decide +kernel) (by decide +kernel)
theorem lk_X12_255 : Cond.methodLink RX12 255 yX12_mark ∈ lw_g := lw_mem 1691 (by decide +kernel) (by decide +kernel)
theorem lk_X12_258 : Cond.methodLink RX12 258 yX12_readExpression ∈ lw_g := lw_mem 1658 (by decide +kernel) (by decide +kernel)
theorem lk_X12_261 : Cond.methodLink RX12 261 yX12_readPart ∈ lw_g := lw_mem 1683 (by decide +kernel) (by decide +kernel)
theorem lk_X12_264 : Cond.methodLink RX12 264 yX12_readProduct ∈ lw_g := lw_mem 1679 (by decide +kernel) (by decide +kernel)
theorem lk_X12_269 : Cond.methodLink RX12 269 yX12_readSum ∈ lw_g := lw_mem 1675 (by decide +kernel) (by decide +kernel)
theorem lk_X12_272 : Cond.methodLink RX12 272 yX12_readNot ∈ lw_g := lw_mem 1670 (by decide +kernel) (by decide +kernel)
theorem lk_X12_277 : Cond.methodLink RX12 277 yX12_readAnd ∈ lw_g := lw_mem 1666 (by decide +kernel) (by decide +kernel)
theorem lk_X12_282 : Cond.methodLink RX12 282 yX12_another ∈ lw_g := lw_mem 1701 (by decide +kernel) (by decide +kernel)
theorem lk_X12_286 : Cond.methodLink RX12 286 yX12_personNow ∈ lw_g := lw_mem 1710 (by decide +kernel) (by decide +kernel)
theorem lk_X12_292 : Cond.methodLink RX12 292 yX12_sayOther ∈ lw_g := lw_mem 1654 (by decide +kernel) (by decide +kernel)
theorem lk_X12_295 : Cond.methodLink RX12 295 yX12_sayPerson ∈ lw_g := lw_mem 1697 (by decide +kernel) (by decide +kernel)
theorem lk_X12_300 : Cond.methodLink RX12 300 yX12_sayFeud ∈ lw_g := lw_mem 1706 (by decide +kernel) (by decide +kernel)
theorem lk_X12_303 : Cond.methodLink RX12 303 yX12_fail ∈ lw_g := lw_mem 1603 (by decide +kernel) (by decide +kernel)
theorem lp_12_17 : Lp 12 17 .int := ⟨by decide +kernel, by decide +kernel⟩
theorem lk_X12_306 : Cond.methodLink RX12 306 yX12_readLine ∈ lw_g := lw_mem 1626 (by decide +kernel) (by decide +kernel)
theorem lk_X12_309 : Cond.methodLink RX12 309 yX12_takeOver ∈ lw_g := lw_mem 1714 (by decide +kernel) (by decide +kernel)
theorem lk_X12_312 : Cond.methodLink RX12 312 yX12_takeHalf ∈ lw_g := lw_mem 1718 (by decide +kernel) (by decide +kernel)
theorem lf_X12_316 : Lf RX12 316 12 30 0 := ⟨lw_mem 1413 (by decide +kernel) (by decide +kernel), by decide +kernel, by decide +kernel, by decide⟩
theorem lp_12_30 : Lp 12 30 .int := ⟨by decide +kernel, by decide +kernel⟩
theorem lf_X12_318 : Lf RX12 318 12 31 0 := ⟨lw_mem 1414 (by decide +kernel) (by decide +kernel), by decide +kernel, by decide +kernel, by decide⟩
theorem lp_12_31 : Lp 12 31 .int := ⟨by decide +kernel, by decide +kernel⟩
theorem lf_X12_320 : Lf RX12 320 12 32 0 := ⟨lw_mem 1415 (by decide +kernel) (by decide +kernel), by decide +kernel, by decide +kernel, by decide⟩
theorem lp_12_32 : Lp 12 32 .int := ⟨by decide +kernel, by decide +kernel⟩
theorem lf_X12_323 : Lf RX12 323 12 33 0 := ⟨lw_mem 1416 (by decide +kernel) (by decide +kernel), by decide +kernel, by decide +kernel, by decide⟩
theorem lp_12_33 : Lp 12 33 .int := ⟨by decide +kernel, by decide +kernel⟩
theorem lf_X12_326 : Lf RX12 326 12 34 0 := ⟨lw_mem 1417 (by decide +kernel) (by decide +kernel), by decide +kernel, by decide +kernel, by decide⟩
theorem lp_12_34 : Lp 12 34 .int := ⟨by decide +kernel, by decide +kernel⟩
theorem lf_X12_329 : Lf RX12 329 12 35 0 := ⟨lw_mem 1418 (by decide +kernel) (by decide +kernel), by decide +kernel, by decide +kernel, by decide⟩
theorem lp_12_35 : Lp 12 35 .int := ⟨by decide +kernel, by decide +kernel⟩
theorem lf_X12_332 : Lf RX12 332 12 36 0 := ⟨lw_mem 1419 (by decide +kernel) (by decide +kernel), by decide +kernel, by decide +kernel, by decide⟩
theorem lp_12_36 : Lp 12 36 .int := ⟨by decide +kernel, by decide +kernel⟩
theorem lk_X12_335 : Cond.methodLink RX12 335 yX12_placeOf ∈ lw_g := lw_mem 1721 (by decide +kernel) (by decide +kernel)
theorem lf_X12_338 : Lf RX12 338 12 37 0 := ⟨lw_mem 1420 (by decide +kernel) (by decide +kernel), by decide +kernel, by decide +kernel, by decide⟩
theorem lp_12_37 : Lp 12 37 .int := ⟨by decide +kernel, by decide +kernel⟩
theorem lf_X12_341 : Lf RX12 341 12 38 0 := ⟨lw_mem 1421 (by decide +kernel) (by decide +kernel), by decide +kernel, by decide +kernel, by decide⟩
theorem lp_12_38 : Lp 12 38 .int := ⟨by decide +kernel, by decide +kernel⟩
theorem lf_X12_344 : Lf RX12 344 12 58 1 := ⟨lw_mem 1441 (by decide +kernel) (by decide +kernel), by decide +kernel, by decide +kernel, by decide⟩
theorem lp_12_58 : Lp 12 58 .boolean := ⟨by decide +kernel, by decide +kernel⟩
theorem lk_X12_348 : Cond.methodLink RX12 348 yX12_reckon ∈ lw_g := lw_mem 1809 (by decide +kernel) (by decide +kernel)
theorem lk_X12_352 : Cond.methodLink RX12 352 yX12_lastNote ∈ lw_g := lw_mem 1801 (by decide +kernel) (by decide +kernel)
theorem lk_X12_355 : Cond.methodLink RX12 355 yX12_signsOf ∈ lw_g := lw_mem 1748 (by decide +kernel) (by decide +kernel)
theorem lk_X12_358 : Cond.methodLink RX12 358 yX12_valueNow ∈ lw_g := lw_mem 1805 (by decide +kernel) (by decide +kernel)
theorem lk_X12_361 : Cond.methodLink RX12 361 yX12_byRule ∈ lw_g := lw_mem 1797 (by decide +kernel) (by decide +kernel)
theorem lk_X12_364 : Cond.methodLink RX12 364 yX12_by12 ∈ lw_g := lw_mem 1812 (by decide +kernel) (by decide +kernel)
theorem lk_X12_367 : Cond.methodLink RX12 367 yX12_isFeud ∈ lw_g := lw_mem 1815 (by decide +kernel) (by decide +kernel)
theorem lk_X12_370 : Cond.methodLink RX12 370 yX12_isOf ∈ lw_g := lw_mem 1790 (by decide +kernel) (by decide +kernel)
theorem lk_X12_373 : Cond.methodLink RX12 373 yX12_noteOf ∈ lw_g := lw_mem 1793 (by decide +kernel) (by decide +kernel)
theorem lk_X12_376 : Cond.methodLink RX12 376 yX12_aYear ∈ lw_g := lw_mem 1786 (by decide +kernel) (by decide +kernel)
theorem lk_X12_379 : Cond.methodLink RX12 379 yX12_rests ∈ lw_g := lw_mem 1733 (by decide +kernel) (by decide +kernel)
theorem lk_X12_382 : Cond.methodLink RX12 382 yX12_isPerson ∈ lw_g := lw_mem 1741 (by decide +kernel) (by decide +kernel)
theorem lx_X12_385 : Cond.constantLong RX12 385 (2 : Int64) ∈ lw_g := lw_mem 1760 (by decide +kernel) (by decide +kernel)
theorem lk_X12_387 : Cond.methodLink RX12 387 yX12_pack ∈ lw_g := lw_mem 1778 (by decide +kernel) (by decide +kernel)
theorem lx_X12_391 : Cond.constantLong RX12 391 (20 : Int64) ∈ lw_g := lw_mem 1769 (by decide +kernel) (by decide +kernel)
theorem lk_X12_393 : Cond.methodLink RX12 393 yX12_refuse ∈ lw_g := lw_mem 1770 (by decide +kernel) (by decide +kernel)
theorem lk_X12_396 : Cond.methodLink RX12 396 yX12_keep ∈ lw_g := lw_mem 1774 (by decide +kernel) (by decide +kernel)
theorem lk_X12_399 : Cond.methodLink RX12 399 yX12_goOn ∈ lw_g := lw_mem 1782 (by decide +kernel) (by decide +kernel)
theorem lk_X12_402 : Cond.methodLink RX12 402 yX12_failing ∈ lw_g := lw_mem 1823 (by decide +kernel) (by decide +kernel)
theorem lk_X12_405 : Cond.methodLink RX12 405 yX12_refuses ∈ lw_g := lw_mem 1827 (by decide +kernel) (by decide +kernel)
theorem lk_X12_409 : Cond.methodLink RX12 409 yX12_canMarry ∈ lw_g := lw_mem 1839 (by decide +kernel) (by decide +kernel)
theorem lk_X12_412 : Cond.methodLink RX12 412 yX12_wed ∈ lw_g := lw_mem 1843 (by decide +kernel) (by decide +kernel)
theorem lk_X12_416 : Cond.methodLink RX12 416 yX12_unpack ∈ lw_g := lw_mem 1859 (by decide +kernel) (by decide +kernel)
theorem lx_X12_419 : Cond.constantLong RX12 419 (7 : Int64) ∈ lw_g := lw_mem 1871 (by decide +kernel) (by decide +kernel)
theorem lk_X12_421 : Cond.methodLink RX12 421 yX12_isAt ∈ lw_g := lw_mem 1872 (by decide +kernel) (by decide +kernel)
theorem lk_X12_424 : Cond.methodLink RX12 424 yX12_tellPhrase ∈ lw_g := lw_mem 1867 (by decide +kernel) (by decide +kernel)
theorem lk_X12_427 : Cond.methodLink RX12 427 yX12_firstFrom ∈ lw_g := lw_mem 1876 (by decide +kernel) (by decide +kernel)
theorem lf_X12_430 : Lf RX12 430 12 46 0 := ⟨lw_mem 1429 (by decide +kernel) (by decide +kernel), by decide +kernel, by decide +kernel, by decide⟩
theorem lp_12_46 : Lp 12 46 .int := ⟨by decide +kernel, by decide +kernel⟩
theorem lf_X12_433 : Lf RX12 433 12 47 0 := ⟨lw_mem 1430 (by decide +kernel) (by decide +kernel), by decide +kernel, by decide +kernel, by decide⟩
theorem lp_12_47 : Lp 12 47 .int := ⟨by decide +kernel, by decide +kernel⟩
theorem lk_X12_436 : Cond.methodLink RX12 436 yX12_tellAgain ∈ lw_g := lw_mem 1884 (by decide +kernel) (by decide +kernel)
set_option maxRecDepth 20000 in
theorem lc_X12_439 : LmM RX12 439 Lib.Math.abs.name Lib.Math.abs.code 1 := ⟨lw_mem 1900 (by decide +kernel) (by decide +kernel), lw_mem 1901 (by decide +kernel) (by decide +kernel), lw_mem 121 (by decide +kernel) (by decide +kernel), lw_mem 1902 rfl rfl⟩
theorem lk_X12_442 : Cond.methodLink RX12 442 yX12_isTritone ∈ lw_g := lw_mem 1896 (by decide +kernel) (by decide +kernel)
theorem lk_X12_445 : Cond.methodLink RX12 445 yX12_tritonesFrom ∈ lw_g := lw_mem 1892 (by decide +kernel) (by decide +kernel)
theorem lx_X12_448 : Cond.constantLong RX12 448 (11 : Int64) ∈ lw_g := lw_mem 1907 (by decide +kernel) (by decide +kernel)
theorem lk_X12_450 : Cond.methodLink RX12 450 yX12_roundAbout ∈ lw_g := lw_mem 1920 (by decide +kernel) (by decide +kernel)
set_option maxRecDepth 20000 in
theorem lc_X12_453 : LmM RX12 453 Lib.Math.max.name Lib.Math.max.code 2 := ⟨lw_mem 1924 (by decide +kernel) (by decide +kernel), lw_mem 661 (by decide +kernel) (by decide +kernel), lw_mem 121 (by decide +kernel) (by decide +kernel), lw_mem 662 rfl rfl⟩
theorem lk_X12_456 : Cond.methodLink RX12 456 yX12_timesOf ∈ lw_g := lw_mem 1929 (by decide +kernel) (by decide +kernel)
theorem lk_X12_459 : Cond.methodLink RX12 459 yX12_likeNow ∈ lw_g := lw_mem 1937 (by decide +kernel) (by decide +kernel)
theorem lk_X12_462 : Cond.methodLink RX12 462 yX12_apartNow ∈ lw_g := lw_mem 1941 (by decide +kernel) (by decide +kernel)
theorem lx_X12_465 : Cond.constantLong RX12 465 (399 : Int64) ∈ lw_g := lw_mem 1949 (by decide +kernel) (by decide +kernel)
theorem lx_X12_467 : Cond.constantLong RX12 467 (10 : Int64) ∈ lw_g := lw_mem 1958 (by decide +kernel) (by decide +kernel)
theorem lk_X12_469 : Cond.methodLink RX12 469 yX12_bitsOf ∈ lw_g := lw_mem 1959 (by decide +kernel) (by decide +kernel)
theorem lk_X12_472 : Cond.methodLink RX12 472 yX12_likeIn ∈ lw_g := lw_mem 1966 (by decide +kernel) (by decide +kernel)
theorem lx_X12_475 : Cond.constantLong RX12 475 (12 : Int64) ∈ lw_g := lw_mem 1974 (by decide +kernel) (by decide +kernel)
theorem lk_X12_477 : Cond.methodLink RX12 477 yX12_isAsHeard ∈ lw_g := lw_mem 1979 (by decide +kernel) (by decide +kernel)
theorem lk_X12_480 : Cond.methodLink RX12 480 yX12_spies ∈ lw_g := lw_mem 1983 (by decide +kernel) (by decide +kernel)
theorem lk_X12_483 : Cond.methodLink RX12 483 yX12_tellUnlike ∈ lw_g := lw_mem 1991 (by decide +kernel) (by decide +kernel)
theorem lk_X12_486 : Cond.methodLink RX12 486 yX12_isFor ∈ lw_g := lw_mem 2003 (by decide +kernel) (by decide +kernel)
theorem lk_X12_489 : Cond.methodLink RX12 489 yX12_canSend ∈ lw_g := lw_mem 2016 (by decide +kernel) (by decide +kernel)
theorem lx_X12_492 : Cond.constantLong RX12 492 (3 : Int64) ∈ lw_g := lw_mem 2011 (by decide +kernel) (by decide +kernel)
theorem lk_X12_494 : Cond.methodLink RX12 494 yX12_tellGains ∈ lw_g := lw_mem 2012 (by decide +kernel) (by decide +kernel)
theorem lk_X12_497 : Cond.methodLink RX12 497 yX12_stays ∈ lw_g := lw_mem 2020 (by decide +kernel) (by decide +kernel)
theorem lf_X12_501 : Lf RX12 501 12 57 0 := ⟨lw_mem 1440 (by decide +kernel) (by decide +kernel), by decide +kernel, by decide +kernel, by decide⟩
theorem lx_X12_504 : Cond.constant RX12 504 (1103515245 : Int32) ∈ lw_g := lw_mem 2036 (by decide +kernel) (by decide +kernel)
theorem lp_12_57 : Lp 12 57 .int := ⟨by decide +kernel, by decide +kernel⟩
theorem lk_X12_505 : Cond.methodLink RX12 505 yX12_drawOf ∈ lw_g := lw_mem 2032 (by decide +kernel) (by decide +kernel)
theorem lk_X12_508 : Cond.methodLink RX12 508 yX12_something ∈ lw_g := lw_mem 2028 (by decide +kernel) (by decide +kernel)
theorem lf_X12_511 : Lf RX12 511 12 59 0 := ⟨lw_mem 1442 (by decide +kernel) (by decide +kernel), by decide +kernel, by decide +kernel, by decide⟩
theorem lp_12_59 : Lp 12 59 .int := ⟨by decide +kernel, by decide +kernel⟩
theorem lf_X12_514 : Lf RX12 514 12 60 0 := ⟨lw_mem 1443 (by decide +kernel) (by decide +kernel), by decide +kernel, by decide +kernel, by decide⟩
theorem lp_12_60 : Lp 12 60 .int := ⟨by decide +kernel, by decide +kernel⟩
theorem lk_X12_517 : Cond.methodLink RX12 517 yX12_be ∈ lw_g := lw_mem 2041 (by decide +kernel) (by decide +kernel)
