theorem mt_yX0_copyFrom : jMth yX0_copyFrom cX0_copyFrom 2 none 1 := ⟨wd_1240, wd_5, ⟨by decide +kernel, by decide +kernel, by decide +kernel⟩, by decide +kernel⟩
theorem mv_yX0_copyFrom : Cond.instanceMethod yX0_copyFrom ∈ lw_g ∧ Cond.selects yX0_copyFrom.cls yX0_copyFrom yX0_copyFrom ∈ lw_g := ⟨wd_1238, wd_1239⟩
theorem mt_yX0_fetchedUpTo : jMth yX0_fetchedUpTo cX0_fetchedUpTo 5 (some .long) 1 := ⟨wd_918, wd_5, ⟨by decide +kernel, by decide +kernel, by decide +kernel⟩, by decide +kernel⟩
theorem mv_yX0_fetchedUpTo : Cond.instanceMethod yX0_fetchedUpTo ∈ lw_g ∧ Cond.selects yX0_fetchedUpTo.cls yX0_fetchedUpTo yX0_fetchedUpTo ∈ lw_g := ⟨wd_916, wd_917⟩
theorem mt_yX0_init : jMth yX0_init cX0_init 1 none 0 := ⟨wd_112, wd_5, ⟨by decide +kernel, by decide +kernel, by decide +kernel⟩, by decide +kernel⟩
theorem mi_yX0_init : Cond.instanceMethod yX0_init ∈ lw_g := wd_111
theorem mt_yX0_pennies : jMth yX0_pennies cX0_pennies 1 (some .int) 0 := ⟨wd_913, wd_5, ⟨by decide +kernel, by decide +kernel, by decide +kernel⟩, by decide +kernel⟩
theorem mv_yX0_pennies : Cond.instanceMethod yX0_pennies ∈ lw_g ∧ Cond.selects yX0_pennies.cls yX0_pennies yX0_pennies ∈ lw_g := ⟨wd_911, wd_912⟩
theorem mt_yX10_copyFrom : jMth yX10_copyFrom cX10_copyFrom 2 none 1 := ⟨wd_1252, wd_8, ⟨by decide +kernel, by decide +kernel, by decide +kernel⟩, by decide +kernel⟩
theorem mv_yX10_copyFrom : Cond.instanceMethod yX10_copyFrom ∈ lw_g ∧ Cond.selects yX10_copyFrom.cls yX10_copyFrom yX10_copyFrom ∈ lw_g := ⟨wd_1250, wd_1251⟩
theorem mt_yX10_init : jMth yX10_init cX10_init 1 none 0 := ⟨wd_251, wd_8, ⟨by decide +kernel, by decide +kernel, by decide +kernel⟩, by decide +kernel⟩
theorem mi_yX10_init : Cond.instanceMethod yX10_init ∈ lw_g := wd_250
theorem mt_yX11_areStrokes : jMth yX11_areStrokes cX11_areStrokes 5 (some .boolean) 5 := ⟨wd_1112, wd_1, ⟨by decide +kernel, by decide +kernel, by decide +kernel⟩, by decide +kernel⟩
theorem ms_yX11_areStrokes : Cond.static yX11_areStrokes ∈ lw_g := wd_1111
theorem mt_yX11_best : jMth yX11_best cX11_best 4 (some .int) 3 := ⟨wd_975, wd_1, ⟨by decide +kernel, by decide +kernel, by decide +kernel⟩, by decide +kernel⟩
theorem mv_yX11_best : Cond.instanceMethod yX11_best ∈ lw_g ∧ Cond.selects yX11_best.cls yX11_best yX11_best ∈ lw_g := ⟨wd_973, wd_974⟩
theorem mt_yX11_book : jMth yX11_book cX11_book 3 (some .int) 2 := ⟨wd_1097, wd_1, ⟨by decide +kernel, by decide +kernel, by decide +kernel⟩, by decide +kernel⟩
theorem mv_yX11_book : Cond.instanceMethod yX11_book ∈ lw_g ∧ Cond.selects yX11_book.cls yX11_book yX11_book ∈ lw_g := ⟨wd_1095, wd_1096⟩
theorem mt_yX11_chain : jMth yX11_chain cX11_chain 2 (some .int) 1 := ⟨wd_1085, wd_1, ⟨by decide +kernel, by decide +kernel, by decide +kernel⟩, by decide +kernel⟩
theorem mv_yX11_chain : Cond.instanceMethod yX11_chain ∈ lw_g ∧ Cond.selects yX11_chain.cls yX11_chain yX11_chain ∈ lw_g := ⟨wd_1083, wd_1084⟩
theorem mt_yX11_clerk : jMth yX11_clerk cX11_clerk 5 (some .int) 1 := ⟨wd_1221, wd_1, ⟨by decide +kernel, by decide +kernel, by decide +kernel⟩, by decide +kernel⟩
theorem mv_yX11_clerk : Cond.instanceMethod yX11_clerk ∈ lw_g ∧ Cond.selects yX11_clerk.cls yX11_clerk yX11_clerk ∈ lw_g := ⟨wd_1219, wd_1220⟩
theorem mt_yX11_count : jMth yX11_count cX11_count 2 (some .int) 1 := ⟨wd_1268, wd_1, ⟨by decide +kernel, by decide +kernel, by decide +kernel⟩, by decide +kernel⟩
theorem mv_yX11_count : Cond.instanceMethod yX11_count ∈ lw_g ∧ Cond.selects yX11_count.cls yX11_count yX11_count ∈ lw_g := ⟨wd_1266, wd_1267⟩
theorem mt_yX11_duty : jMth yX11_duty cX11_duty 3 (some .int) 1 := ⟨wd_1116, wd_1, ⟨by decide +kernel, by decide +kernel, by decide +kernel⟩, by decide +kernel⟩
theorem mv_yX11_duty : Cond.instanceMethod yX11_duty ∈ lw_g ∧ Cond.selects yX11_duty.cls yX11_duty yX11_duty ∈ lw_g := ⟨wd_1114, wd_1115⟩
theorem mt_yX11_farFrom : jMth yX11_farFrom cX11_farFrom 8 (some .int) 6 := ⟨wd_1128, wd_1, ⟨by decide +kernel, by decide +kernel, by decide +kernel⟩, by decide +kernel⟩
theorem mv_yX11_farFrom : Cond.instanceMethod yX11_farFrom ∈ lw_g ∧ Cond.selects yX11_farFrom.cls yX11_farFrom yX11_farFrom ∈ lw_g := ⟨wd_1127, List.mem_filter.mpr ⟨List.mem_of_getElem? (i := 21) (by decide +kernel), by decide +kernel⟩⟩
theorem mt_yX11_fault : jMth yX11_fault cX11_fault 2 (some .int) 1 := ⟨wd_718, wd_1, ⟨by decide +kernel, by decide +kernel, by decide +kernel⟩, by decide +kernel⟩
theorem mv_yX11_fault : Cond.instanceMethod yX11_fault ∈ lw_g ∧ Cond.selects yX11_fault.cls yX11_fault yX11_fault ∈ lw_g := ⟨wd_716, wd_717⟩
theorem mt_yX11_feed : jMth yX11_feed cX11_feed 7 (some .int) 5 := ⟨wd_522, wd_1, ⟨by decide +kernel, by decide +kernel, by decide +kernel⟩, by decide +kernel⟩
theorem mv_yX11_feed : Cond.instanceMethod yX11_feed ∈ lw_g ∧ Cond.selects yX11_feed.cls yX11_feed yX11_feed ∈ lw_g := ⟨wd_520, wd_521⟩
theorem mt_yX11_fetch : jMth yX11_fetch cX11_fetch 7 (some .int) 1 := ⟨wd_830, wd_1, ⟨by decide +kernel, by decide +kernel, by decide +kernel⟩, by decide +kernel⟩
theorem mv_yX11_fetch : Cond.instanceMethod yX11_fetch ∈ lw_g ∧ Cond.selects yX11_fetch.cls yX11_fetch yX11_fetch ∈ lw_g := ⟨wd_828, wd_829⟩
theorem mt_yX11_fits : jMth yX11_fits cX11_fits 5 (some .int) 2 := ⟨wd_1056, wd_1, ⟨by decide +kernel, by decide +kernel, by decide +kernel⟩, by decide +kernel⟩
theorem mv_yX11_fits : Cond.instanceMethod yX11_fits ∈ lw_g ∧ Cond.selects yX11_fits.cls yX11_fits yX11_fits ∈ lw_g := ⟨wd_1054, wd_1055⟩
theorem mt_yX11_foresee : jMth yX11_foresee cX11_foresee 6 (some .int) 1 := ⟨wd_1164, wd_1, ⟨by decide +kernel, by decide +kernel, by decide +kernel⟩, by decide +kernel⟩
theorem mv_yX11_foresee : Cond.instanceMethod yX11_foresee ∈ lw_g ∧ Cond.selects yX11_foresee.cls yX11_foresee yX11_foresee ∈ lw_g := ⟨wd_1162, wd_1163⟩
theorem mt_yX11_gained : jMth yX11_gained cX11_gained 8 (some .long) 4 := ⟨wd_931, wd_1, ⟨by decide +kernel, by decide +kernel, by decide +kernel⟩, by decide +kernel⟩
theorem mv_yX11_gained : Cond.instanceMethod yX11_gained ∈ lw_g ∧ Cond.selects yX11_gained.cls yX11_gained yX11_gained ∈ lw_g := ⟨wd_929, wd_930⟩
theorem mt_yX11_hand : jMth yX11_hand cX11_hand 10 (some .int) 6 := ⟨wd_1120, wd_1, ⟨by decide +kernel, by decide +kernel, by decide +kernel⟩, by decide +kernel⟩
theorem mv_yX11_hand : Cond.instanceMethod yX11_hand ∈ lw_g ∧ Cond.selects yX11_hand.cls yX11_hand yX11_hand ∈ lw_g := ⟨wd_1118, wd_1119⟩
theorem mt_yX11_held : jMth yX11_held cX11_held 5 (some .int) 2 := ⟨wd_811, wd_1, ⟨by decide +kernel, by decide +kernel, by decide +kernel⟩, by decide +kernel⟩
theorem mv_yX11_held : Cond.instanceMethod yX11_held ∈ lw_g ∧ Cond.selects yX11_held.cls yX11_held yX11_held ∈ lw_g := ⟨wd_809, wd_810⟩
theorem mt_yX11_hold : jMth yX11_hold cX11_hold 5 (some .int) 1 := ⟨wd_1073, wd_1, ⟨by decide +kernel, by decide +kernel, by decide +kernel⟩, by decide +kernel⟩
theorem mv_yX11_hold : Cond.instanceMethod yX11_hold ∈ lw_g ∧ Cond.selects yX11_hold.cls yX11_hold yX11_hold ∈ lw_g := ⟨wd_1071, wd_1072⟩
theorem mt_yX11_image : jMth yX11_image cX11_image 2 (some .int) 1 := ⟨wd_1226, wd_1, ⟨by decide +kernel, by decide +kernel, by decide +kernel⟩, by decide +kernel⟩
theorem mv_yX11_image : Cond.instanceMethod yX11_image ∈ lw_g ∧ Cond.selects yX11_image.cls yX11_image yX11_image ∈ lw_g := ⟨wd_1224, wd_1225⟩
theorem mt_yX11_init : jMth yX11_init cX11_init 2 none 0 := ⟨wd_24, wd_1, ⟨by decide +kernel, by decide +kernel, by decide +kernel⟩, by decide +kernel⟩
theorem mi_yX11_init : Cond.instanceMethod yX11_init ∈ lw_g := wd_23
theorem mt_yX11_interest : jMth yX11_interest cX11_interest 6 (some .int) 4 := ⟨wd_726, wd_1, ⟨by decide +kernel, by decide +kernel, by decide +kernel⟩, by decide +kernel⟩
theorem mv_yX11_interest : Cond.instanceMethod yX11_interest ∈ lw_g ∧ Cond.selects yX11_interest.cls yX11_interest yX11_interest ∈ lw_g := ⟨wd_724, wd_725⟩
theorem mt_yX11_isLifeSpan : jMth yX11_isLifeSpan cX11_isLifeSpan 2 (some .boolean) 2 := ⟨wd_1019, wd_1, ⟨by decide +kernel, by decide +kernel, by decide +kernel⟩, by decide +kernel⟩
theorem ms_yX11_isLifeSpan : Cond.static yX11_isLifeSpan ∈ lw_g := wd_1018
theorem mt_yX11_isLoan : jMth yX11_isLoan cX11_isLoan 1 (some .boolean) 1 := ⟨wd_729, wd_1, ⟨by decide +kernel, by decide +kernel, by decide +kernel⟩, by decide +kernel⟩
theorem ms_yX11_isLoan : Cond.static yX11_isLoan ∈ lw_g := wd_728
theorem mt_yX11_kind : jMth yX11_kind cX11_kind 7 (some .int) 5 := ⟨wd_752, wd_1, ⟨by decide +kernel, by decide +kernel, by decide +kernel⟩, by decide +kernel⟩
theorem mv_yX11_kind : Cond.instanceMethod yX11_kind ∈ lw_g ∧ Cond.selects yX11_kind.cls yX11_kind yX11_kind ∈ lw_g := ⟨wd_750, wd_751⟩
theorem mt_yX11_lend : jMth yX11_lend cX11_lend 5 (some .int) 3 := ⟨wd_902, wd_1, ⟨by decide +kernel, by decide +kernel, by decide +kernel⟩, by decide +kernel⟩
theorem mv_yX11_lend : Cond.instanceMethod yX11_lend ∈ lw_g ∧ Cond.selects yX11_lend.cls yX11_lend yX11_lend ∈ lw_g := ⟨wd_900, wd_901⟩
theorem mt_yX11_life : jMth yX11_life cX11_life 7 (some .int) 5 := ⟨wd_1012, wd_1, ⟨by decide +kernel, by decide +kernel, by decide +kernel⟩, by decide +kernel⟩
theorem mv_yX11_life : Cond.instanceMethod yX11_life ∈ lw_g ∧ Cond.selects yX11_life.cls yX11_life yX11_life ∈ lw_g := ⟨wd_1010, wd_1011⟩
theorem mt_yX11_lifeRefused : jMth yX11_lifeRefused cX11_lifeRefused 6 (some .int) 5 := ⟨wd_1016, wd_1, ⟨by decide +kernel, by decide +kernel, by decide +kernel⟩, by decide +kernel⟩
theorem mv_yX11_lifeRefused : Cond.instanceMethod yX11_lifeRefused ∈ lw_g ∧ Cond.selects yX11_lifeRefused.cls yX11_lifeRefused yX11_lifeRefused ∈ lw_g := ⟨wd_1015, List.mem_filter.mpr ⟨List.mem_of_getElem? (i := 16) (by decide +kernel), by decide +kernel⟩⟩
theorem mt_yX11_list : jMth yX11_list cX11_list 3 (some .int) 2 := ⟨wd_1168, wd_1, ⟨by decide +kernel, by decide +kernel, by decide +kernel⟩, by decide +kernel⟩
theorem mv_yX11_list : Cond.instanceMethod yX11_list ∈ lw_g ∧ Cond.selects yX11_list.cls yX11_list yX11_list ∈ lw_g := ⟨wd_1166, wd_1167⟩
theorem mt_yX11_lots : jMth yX11_lots cX11_lots 3 (some .int) 2 := ⟨wd_1032, wd_1, ⟨by decide +kernel, by decide +kernel, by decide +kernel⟩, by decide +kernel⟩
theorem mv_yX11_lots : Cond.instanceMethod yX11_lots ∈ lw_g ∧ Cond.selects yX11_lots.cls yX11_lots yX11_lots ∈ lw_g := ⟨wd_1030, wd_1031⟩
theorem mt_yX11_match : jMth yX11_match cX11_match 2 (some .int) 1 := ⟨wd_1172, wd_1, ⟨by decide +kernel, by decide +kernel, by decide +kernel⟩, by decide +kernel⟩
theorem mv_yX11_match : Cond.instanceMethod yX11_match ∈ lw_g ∧ Cond.selects yX11_match.cls yX11_match yX11_match ∈ lw_g := ⟨wd_1170, wd_1171⟩
theorem mt_yX11_needs : jMth yX11_needs cX11_needs 7 (some .int) 4 := ⟨wd_1028, wd_1, ⟨by decide +kernel, by decide +kernel, by decide +kernel⟩, by decide +kernel⟩
theorem mv_yX11_needs : Cond.instanceMethod yX11_needs ∈ lw_g ∧ Cond.selects yX11_needs.cls yX11_needs yX11_needs ∈ lw_g := ⟨wd_1026, wd_1027⟩
theorem mt_yX11_of : jMth yX11_of cX11_of 4 (some .int) 2 := ⟨wd_866, wd_1, ⟨by decide +kernel, by decide +kernel, by decide +kernel⟩, by decide +kernel⟩
theorem mv_yX11_of : Cond.instanceMethod yX11_of ∈ lw_g ∧ Cond.selects yX11_of.cls yX11_of yX11_of ∈ lw_g := ⟨wd_864, wd_865⟩
theorem mt_yX11_other : jMth yX11_other cX11_other 1 (some .int) 0 := ⟨wd_722, wd_1, ⟨by decide +kernel, by decide +kernel, by decide +kernel⟩, by decide +kernel⟩
theorem mv_yX11_other : Cond.instanceMethod yX11_other ∈ lw_g ∧ Cond.selects yX11_other.cls yX11_other yX11_other ∈ lw_g := ⟨wd_720, wd_721⟩
theorem mt_yX11_over : jMth yX11_over cX11_over 4 (some .int) 1 := ⟨wd_898, wd_1, ⟨by decide +kernel, by decide +kernel, by decide +kernel⟩, by decide +kernel⟩
theorem mv_yX11_over : Cond.instanceMethod yX11_over ∈ lw_g ∧ Cond.selects yX11_over.cls yX11_over yX11_over ∈ lw_g := ⟨wd_896, wd_897⟩
theorem mt_yX11_passed : jMth yX11_passed cX11_passed 4 (some .int) 1 := ⟨wd_883, wd_1, ⟨by decide +kernel, by decide +kernel, by decide +kernel⟩, by decide +kernel⟩
theorem mv_yX11_passed : Cond.instanceMethod yX11_passed ∈ lw_g ∧ Cond.selects yX11_passed.cls yX11_passed yX11_passed ∈ lw_g := ⟨wd_881, wd_882⟩
theorem mt_yX11_person : jMth yX11_person cX11_person 6 (some .int) 4 := ⟨wd_756, wd_1, ⟨by decide +kernel, by decide +kernel, by decide +kernel⟩, by decide +kernel⟩
theorem mv_yX11_person : Cond.instanceMethod yX11_person ∈ lw_g ∧ Cond.selects yX11_person.cls yX11_person yX11_person ∈ lw_g := ⟨wd_754, wd_755⟩
theorem mt_yX11_pledge : jMth yX11_pledge cX11_pledge 4 (some .int) 3 := ⟨wd_773, wd_1, ⟨by decide +kernel, by decide +kernel, by decide +kernel⟩, by decide +kernel⟩
theorem mv_yX11_pledge : Cond.instanceMethod yX11_pledge ∈ lw_g ∧ Cond.selects yX11_pledge.cls yX11_pledge yX11_pledge ∈ lw_g := ⟨wd_771, wd_772⟩
theorem mt_yX11_purse : jMth yX11_purse cX11_purse 2 (some .int) 1 := ⟨wd_760, wd_1, ⟨by decide +kernel, by decide +kernel, by decide +kernel⟩, by decide +kernel⟩
theorem mv_yX11_purse : Cond.instanceMethod yX11_purse ∈ lw_g ∧ Cond.selects yX11_purse.cls yX11_purse yX11_purse ∈ lw_g := ⟨wd_758, wd_759⟩
theorem mt_yX11_put : jMth yX11_put cX11_put 5 (some .int) 2 := ⟨wd_945, wd_1, ⟨by decide +kernel, by decide +kernel, by decide +kernel⟩, by decide +kernel⟩
theorem mv_yX11_put : Cond.instanceMethod yX11_put ∈ lw_g ∧ Cond.selects yX11_put.cls yX11_put yX11_put ∈ lw_g := ⟨wd_943, wd_944⟩
theorem mt_yX11_rack : jMth yX11_rack cX11_rack 3 (some .int) 2 := ⟨wd_941, wd_1, ⟨by decide +kernel, by decide +kernel, by decide +kernel⟩, by decide +kernel⟩
theorem mv_yX11_rack : Cond.instanceMethod yX11_rack ∈ lw_g ∧ Cond.selects yX11_rack.cls yX11_rack yX11_rack ∈ lw_g := ⟨wd_939, wd_940⟩
theorem mt_yX11_renew : jMth yX11_renew cX11_renew 8 (some .int) 1 := ⟨wd_848, wd_1, ⟨by decide +kernel, by decide +kernel, by decide +kernel⟩, by decide +kernel⟩
theorem mv_yX11_renew : Cond.instanceMethod yX11_renew ∈ lw_g ∧ Cond.selects yX11_renew.cls yX11_renew yX11_renew ∈ lw_g := ⟨wd_846, wd_847⟩
theorem mt_yX11_renewals : jMth yX11_renewals cX11_renewals 3 (some .int) 2 := ⟨wd_1160, wd_1, ⟨by decide +kernel, by decide +kernel, by decide +kernel⟩, by decide +kernel⟩
theorem mv_yX11_renewals : Cond.instanceMethod yX11_renewals ∈ lw_g ∧ Cond.selects yX11_renewals.cls yX11_renewals yX11_renewals ∈ lw_g := ⟨wd_1158, wd_1159⟩
theorem mt_yX11_restore : jMth yX11_restore cX11_restore 2 (some .int) 1 := ⟨wd_1264, wd_1, ⟨by decide +kernel, by decide +kernel, by decide +kernel⟩, by decide +kernel⟩
theorem mv_yX11_restore : Cond.instanceMethod yX11_restore ∈ lw_g ∧ Cond.selects yX11_restore.cls yX11_restore yX11_restore ∈ lw_g := ⟨wd_1262, wd_1263⟩
theorem mt_yX11_row : jMth yX11_row cX11_row 4 (some .int) 3 := ⟨wd_1199, wd_1, ⟨by decide +kernel, by decide +kernel, by decide +kernel⟩, by decide +kernel⟩
theorem mv_yX11_row : Cond.instanceMethod yX11_row ∈ lw_g ∧ Cond.selects yX11_row.cls yX11_row yX11_row ∈ lw_g := ⟨wd_1197, wd_1198⟩
theorem mt_yX11_runs : jMth yX11_runs cX11_runs 7 (some .int) 2 := ⟨wd_1077, wd_1, ⟨by decide +kernel, by decide +kernel, by decide +kernel⟩, by decide +kernel⟩
theorem mv_yX11_runs : Cond.instanceMethod yX11_runs ∈ lw_g ∧ Cond.selects yX11_runs.cls yX11_runs yX11_runs ∈ lw_g := ⟨wd_1075, wd_1076⟩
theorem mt_yX11_rush : jMth yX11_rush cX11_rush 3 (some .int) 2 := ⟨wd_957, wd_1, ⟨by decide +kernel, by decide +kernel, by decide +kernel⟩, by decide +kernel⟩
theorem mv_yX11_rush : Cond.instanceMethod yX11_rush ∈ lw_g ∧ Cond.selects yX11_rush.cls yX11_rush yX11_rush ∈ lw_g := ⟨wd_955, wd_956⟩
theorem mt_yX11_sale : jMth yX11_sale cX11_sale 6 (some .int) 2 := ⟨wd_892, wd_1, ⟨by decide +kernel, by decide +kernel, by decide +kernel⟩, by decide +kernel⟩
theorem mv_yX11_sale : Cond.instanceMethod yX11_sale ∈ lw_g ∧ Cond.selects yX11_sale.cls yX11_sale yX11_sale ∈ lw_g := ⟨wd_890, wd_891⟩
theorem mt_yX11_scribe : jMth yX11_scribe cX11_scribe 8 (some .int) 6 := ⟨wd_1109, wd_1, ⟨by decide +kernel, by decide +kernel, by decide +kernel⟩, by decide +kernel⟩
theorem mv_yX11_scribe : Cond.instanceMethod yX11_scribe ∈ lw_g ∧ Cond.selects yX11_scribe.cls yX11_scribe yX11_scribe ∈ lw_g := ⟨wd_1107, wd_1108⟩
theorem mt_yX11_sell : jMth yX11_sell cX11_sell 7 (some .int) 3 := ⟨wd_862, wd_1, ⟨by decide +kernel, by decide +kernel, by decide +kernel⟩, by decide +kernel⟩
theorem mv_yX11_sell : Cond.instanceMethod yX11_sell ∈ lw_g ∧ Cond.selects yX11_sell.cls yX11_sell yX11_sell ∈ lw_g := ⟨wd_860, wd_861⟩
theorem mt_yX11_shilling : jMth yX11_shilling cX11_shilling 2 (some .int) 1 := ⟨wd_1148, wd_1, ⟨by decide +kernel, by decide +kernel, by decide +kernel⟩, by decide +kernel⟩
theorem mv_yX11_shilling : Cond.instanceMethod yX11_shilling ∈ lw_g ∧ Cond.selects yX11_shilling.cls yX11_shilling yX11_shilling ∈ lw_g := ⟨wd_1146, wd_1147⟩
theorem mt_yX11_street : jMth yX11_street cX11_street 3 (some .int) 2 := ⟨wd_1139, wd_1, ⟨by decide +kernel, by decide +kernel, by decide +kernel⟩, by decide +kernel⟩
theorem mv_yX11_street : Cond.instanceMethod yX11_street ∈ lw_g ∧ Cond.selects yX11_street.cls yX11_street yX11_street ∈ lw_g := ⟨wd_1137, wd_1138⟩
theorem mt_yX11_suit : jMth yX11_suit cX11_suit 4 (some .int) 3 := ⟨wd_1135, wd_1, ⟨by decide +kernel, by decide +kernel, by decide +kernel⟩, by decide +kernel⟩
theorem mv_yX11_suit : Cond.instanceMethod yX11_suit ∈ lw_g ∧ Cond.selects yX11_suit.cls yX11_suit yX11_suit ∈ lw_g := ⟨wd_1133, wd_1134⟩
theorem mt_yX11_swear : jMth yX11_swear cX11_swear 5 (some .int) 1 := ⟨wd_853, wd_1, ⟨by decide +kernel, by decide +kernel, by decide +kernel⟩, by decide +kernel⟩
theorem mv_yX11_swear : Cond.instanceMethod yX11_swear ∈ lw_g ∧ Cond.selects yX11_swear.cls yX11_swear yX11_swear ∈ lw_g := ⟨wd_851, wd_852⟩
theorem mt_yX11_text : jMth yX11_text cX11_text 4 (some .int) 2 := ⟨wd_530, wd_1, ⟨by decide +kernel, by decide +kernel, by decide +kernel⟩, by decide +kernel⟩
theorem mv_yX11_text : Cond.instanceMethod yX11_text ∈ lw_g ∧ Cond.selects yX11_text.cls yX11_text yX11_text ∈ lw_g := ⟨wd_528, wd_529⟩
theorem mt_yX11_ticket : jMth yX11_ticket cX11_ticket 2 (some .int) 1 := ⟨wd_803, wd_1, ⟨by decide +kernel, by decide +kernel, by decide +kernel⟩, by decide +kernel⟩
theorem mv_yX11_ticket : Cond.instanceMethod yX11_ticket ∈ lw_g ∧ Cond.selects yX11_ticket.cls yX11_ticket yX11_ticket ∈ lw_g := ⟨wd_801, wd_802⟩
theorem mt_yX11_trips : jMth yX11_trips cX11_trips 4 (some .int) 3 := ⟨wd_1152, wd_1, ⟨by decide +kernel, by decide +kernel, by decide +kernel⟩, by decide +kernel⟩
theorem mv_yX11_trips : Cond.instanceMethod yX11_trips ∈ lw_g ∧ Cond.selects yX11_trips.cls yX11_trips yX11_trips ∈ lw_g := ⟨wd_1150, wd_1151⟩
theorem mt_yX11_weeks : jMth yX11_weeks cX11_weeks 2 (some .int) 1 := ⟨wd_769, wd_1, ⟨by decide +kernel, by decide +kernel, by decide +kernel⟩, by decide +kernel⟩
theorem mv_yX11_weeks : Cond.instanceMethod yX11_weeks ∈ lw_g ∧ Cond.selects yX11_weeks.cls yX11_weeks yX11_weeks ∈ lw_g := ⟨wd_767, wd_768⟩
theorem mt_yX11_within : jMth yX11_within cX11_within 3 (some .boolean) 3 := ⟨wd_533, wd_1, ⟨by decide +kernel, by decide +kernel, by decide +kernel⟩, by decide +kernel⟩
theorem ms_yX11_within : Cond.static yX11_within ∈ lw_g := wd_532
theorem mt_yX11_worst : jMth yX11_worst cX11_worst 7 (some .int) 2 := ⟨wd_1101, wd_1, ⟨by decide +kernel, by decide +kernel, by decide +kernel⟩, by decide +kernel⟩
theorem mv_yX11_worst : Cond.instanceMethod yX11_worst ∈ lw_g ∧ Cond.selects yX11_worst.cls yX11_worst yX11_worst ∈ lw_g := ⟨wd_1099, wd_1100⟩
theorem mt_yX11_write : jMth yX11_write cX11_write 5 (some .long) 3 := ⟨wd_1207, wd_1, ⟨by decide +kernel, by decide +kernel, by decide +kernel⟩, by decide +kernel⟩
theorem mv_yX11_write : Cond.instanceMethod yX11_write ∈ lw_g ∧ Cond.selects yX11_write.cls yX11_write yX11_write ∈ lw_g := ⟨wd_1205, wd_1206⟩
theorem mt_yX12_apart : jMth yX12_apart cX12_apart 2 (some .int) 2 := ⟨wd_1746, wd_13, ⟨by decide +kernel, by decide +kernel, by decide +kernel⟩, by decide +kernel⟩
theorem ms_yX12_apart : Cond.static yX12_apart ∈ lw_g := wd_1745
theorem mt_yX12_best : jMth yX12_best cX12_best 5 (some .int) 3 := ⟨wd_1661, wd_13, ⟨by decide +kernel, by decide +kernel, by decide +kernel⟩, by decide +kernel⟩
theorem mv_yX12_best : Cond.instanceMethod yX12_best ∈ lw_g ∧ Cond.selects yX12_best.cls yX12_best yX12_best ∈ lw_g := ⟨wd_1659, wd_1660⟩
theorem mt_yX12_book : jMth yX12_book cX12_book 3 (some .int) 2 := ⟨wd_1723, wd_13, ⟨by decide +kernel, by decide +kernel, by decide +kernel⟩, by decide +kernel⟩
theorem mv_yX12_book : Cond.instanceMethod yX12_book ∈ lw_g ∧ Cond.selects yX12_book.cls yX12_book yX12_book ∈ lw_g := ⟨wd_1721, wd_1722⟩
theorem mt_yX12_chain : jMth yX12_chain cX12_chain 6 (some .int) 1 := ⟨wd_1719, wd_13, ⟨by decide +kernel, by decide +kernel, by decide +kernel⟩, by decide +kernel⟩
theorem mv_yX12_chain : Cond.instanceMethod yX12_chain ∈ lw_g ∧ Cond.selects yX12_chain.cls yX12_chain yX12_chain ∈ lw_g := ⟨wd_1717, wd_1718⟩
theorem mt_yX12_clerk : jMth yX12_clerk cX12_clerk 5 (some .int) 1 := ⟨wd_1820, wd_13, ⟨by decide +kernel, by decide +kernel, by decide +kernel⟩, by decide +kernel⟩
theorem mv_yX12_clerk : Cond.instanceMethod yX12_clerk ∈ lw_g ∧ Cond.selects yX12_clerk.cls yX12_clerk yX12_clerk ∈ lw_g := ⟨wd_1818, wd_1819⟩
theorem mt_yX12_count : jMth yX12_count cX12_count 2 (some .int) 1 := ⟨wd_1832, wd_13, ⟨by decide +kernel, by decide +kernel, by decide +kernel⟩, by decide +kernel⟩
theorem mv_yX12_count : Cond.instanceMethod yX12_count ∈ lw_g ∧ Cond.selects yX12_count.cls yX12_count yX12_count ∈ lw_g := ⟨wd_1830, wd_1831⟩
theorem mt_yX12_cut : jMth yX12_cut cX12_cut 3 (some .long) 2 := ⟨wd_1816, wd_13, ⟨by decide +kernel, by decide +kernel, by decide +kernel⟩, by decide +kernel⟩
theorem ms_yX12_cut : Cond.static yX12_cut ∈ lw_g := wd_1815
theorem mt_yX12_dueOf : jMth yX12_dueOf cX12_dueOf 2 (some .int) 1 := ⟨wd_1550, wd_13, ⟨by decide +kernel, by decide +kernel, by decide +kernel⟩, by decide +kernel⟩
theorem mv_yX12_dueOf : Cond.instanceMethod yX12_dueOf ∈ lw_g ∧ Cond.selects yX12_dueOf.cls yX12_dueOf yX12_dueOf ∈ lw_g := ⟨wd_1549, List.mem_filter.mpr ⟨List.mem_of_getElem? (i := 50) (by decide +kernel), by decide +kernel⟩⟩
theorem mt_yX12_duty : jMth yX12_duty cX12_duty 3 (some .int) 1 := ⟨wd_1739, wd_13, ⟨by decide +kernel, by decide +kernel, by decide +kernel⟩, by decide +kernel⟩
theorem mv_yX12_duty : Cond.instanceMethod yX12_duty ∈ lw_g ∧ Cond.selects yX12_duty.cls yX12_duty yX12_duty ∈ lw_g := ⟨wd_1737, wd_1738⟩
theorem mt_yX12_eats : jMth yX12_eats cX12_eats 2 (some .boolean) 1 := ⟨wd_1441, wd_13, ⟨by decide +kernel, by decide +kernel, by decide +kernel⟩, by decide +kernel⟩
theorem mv_yX12_eats : Cond.instanceMethod yX12_eats ∈ lw_g ∧ Cond.selects yX12_eats.cls yX12_eats yX12_eats ∈ lw_g := ⟨wd_1440, List.mem_filter.mpr ⟨List.mem_of_getElem? (i := 38) (by decide +kernel), by decide +kernel⟩⟩
theorem mt_yX12_emit : jMth yX12_emit cX12_emit 3 none 2 := ⟨wd_1467, wd_13, ⟨by decide +kernel, by decide +kernel, by decide +kernel⟩, by decide +kernel⟩
theorem mv_yX12_emit : Cond.instanceMethod yX12_emit ∈ lw_g ∧ Cond.selects yX12_emit.cls yX12_emit yX12_emit ∈ lw_g := ⟨wd_1466, List.mem_filter.mpr ⟨List.mem_of_getElem? (i := 44) (by decide +kernel), by decide +kernel⟩⟩
theorem mt_yX12_fact : jMth yX12_fact cX12_fact 4 (some .boolean) 3 := ⟨wd_1707, wd_13, ⟨by decide +kernel, by decide +kernel, by decide +kernel⟩, by decide +kernel⟩
theorem mv_yX12_fact : Cond.instanceMethod yX12_fact ∈ lw_g ∧ Cond.selects yX12_fact.cls yX12_fact yX12_fact ∈ lw_g := ⟨wd_1706, List.mem_filter.mpr ⟨List.mem_of_getElem? (i := 69) (by decide +kernel), by decide +kernel⟩⟩
theorem mt_yX12_fails : jMth yX12_fails cX12_fails 2 none 1 := ⟨wd_1429, wd_13, ⟨by decide +kernel, by decide +kernel, by decide +kernel⟩, by decide +kernel⟩
theorem mv_yX12_fails : Cond.instanceMethod yX12_fails ∈ lw_g ∧ Cond.selects yX12_fails.cls yX12_fails yX12_fails ∈ lw_g := ⟨wd_1428, List.mem_filter.mpr ⟨List.mem_of_getElem? (i := 35) (by decide +kernel), by decide +kernel⟩⟩
theorem mt_yX12_fault : jMth yX12_fault cX12_fault 2 (some .int) 1 := ⟨wd_1473, wd_13, ⟨by decide +kernel, by decide +kernel, by decide +kernel⟩, by decide +kernel⟩
theorem mv_yX12_fault : Cond.instanceMethod yX12_fault ∈ lw_g ∧ Cond.selects yX12_fault.cls yX12_fault yX12_fault ∈ lw_g := ⟨wd_1471, wd_1472⟩
theorem mt_yX12_feed : jMth yX12_feed cX12_feed 8 (some .int) 5 := ⟨wd_1385, wd_13, ⟨by decide +kernel, by decide +kernel, by decide +kernel⟩, by decide +kernel⟩
theorem mv_yX12_feed : Cond.instanceMethod yX12_feed ∈ lw_g ∧ Cond.selects yX12_feed.cls yX12_feed yX12_feed ∈ lw_g := ⟨wd_1383, wd_1384⟩
theorem mt_yX12_fetch : jMth yX12_fetch cX12_fetch 5 (some .int) 1 := ⟨wd_1558, wd_13, ⟨by decide +kernel, by decide +kernel, by decide +kernel⟩, by decide +kernel⟩
theorem mv_yX12_fetch : Cond.instanceMethod yX12_fetch ∈ lw_g ∧ Cond.selects yX12_fetch.cls yX12_fetch yX12_fetch ∈ lw_g := ⟨wd_1556, wd_1557⟩
theorem mt_yX12_finds : jMth yX12_finds cX12_finds 4 (some .boolean) 2 := ⟨wd_1794, wd_13, ⟨by decide +kernel, by decide +kernel, by decide +kernel⟩, by decide +kernel⟩
theorem mv_yX12_finds : Cond.instanceMethod yX12_finds ∈ lw_g ∧ Cond.selects yX12_finds.cls yX12_finds yX12_finds ∈ lw_g := ⟨wd_1793, List.mem_filter.mpr ⟨List.mem_of_getElem? (i := 73) (by decide +kernel), by decide +kernel⟩⟩
theorem mt_yX12_findsLoose : jMth yX12_findsLoose cX12_findsLoose 4 (some .boolean) 1 := ⟨wd_1666, wd_13, ⟨by decide +kernel, by decide +kernel, by decide +kernel⟩, by decide +kernel⟩
theorem mv_yX12_findsLoose : Cond.instanceMethod yX12_findsLoose ∈ lw_g ∧ Cond.selects yX12_findsLoose.cls yX12_findsLoose yX12_findsLoose ∈ lw_g := ⟨wd_1665, List.mem_filter.mpr ⟨List.mem_of_getElem? (i := 63) (by decide +kernel), by decide +kernel⟩⟩
theorem mt_yX12_findsRacks : jMth yX12_findsRacks cX12_findsRacks 9 (some .int) 2 := ⟨wd_1670, wd_13, ⟨by decide +kernel, by decide +kernel, by decide +kernel⟩, by decide +kernel⟩
theorem mv_yX12_findsRacks : Cond.instanceMethod yX12_findsRacks ∈ lw_g ∧ Cond.selects yX12_findsRacks.cls yX12_findsRacks yX12_findsRacks ∈ lw_g := ⟨wd_1669, List.mem_filter.mpr ⟨List.mem_of_getElem? (i := 64) (by decide +kernel), by decide +kernel⟩⟩
theorem mt_yX12_fits : jMth yX12_fits cX12_fits 5 (some .int) 2 := ⟨wd_1699, wd_13, ⟨by decide +kernel, by decide +kernel, by decide +kernel⟩, by decide +kernel⟩
theorem mv_yX12_fits : Cond.instanceMethod yX12_fits ∈ lw_g ∧ Cond.selects yX12_fits.cls yX12_fits yX12_fits ∈ lw_g := ⟨wd_1697, wd_1698⟩
theorem mt_yX12_foresee : jMth yX12_foresee cX12_foresee 4 (some .int) 1 := ⟨wd_1778, wd_13, ⟨by decide +kernel, by decide +kernel, by decide +kernel⟩, by decide +kernel⟩
theorem mv_yX12_foresee : Cond.instanceMethod yX12_foresee ∈ lw_g ∧ Cond.selects yX12_foresee.cls yX12_foresee yX12_foresee ∈ lw_g := ⟨wd_1776, wd_1777⟩
theorem mt_yX12_gained : jMth yX12_gained cX12_gained 6 (some .long) 4 := ⟨wd_1632, wd_13, ⟨by decide +kernel, by decide +kernel, by decide +kernel⟩, by decide +kernel⟩
theorem mv_yX12_gained : Cond.instanceMethod yX12_gained ∈ lw_g ∧ Cond.selects yX12_gained.cls yX12_gained yX12_gained ∈ lw_g := ⟨wd_1630, wd_1631⟩
theorem mt_yX12_gainedBy : jMth yX12_gainedBy cX12_gainedBy 11 (some .long) 4 := ⟨wd_1627, wd_13, ⟨by decide +kernel, by decide +kernel, by decide +kernel⟩, by decide +kernel⟩
theorem mv_yX12_gainedBy : Cond.instanceMethod yX12_gainedBy ∈ lw_g ∧ Cond.selects yX12_gainedBy.cls yX12_gainedBy yX12_gainedBy ∈ lw_g := ⟨wd_1626, List.mem_filter.mpr ⟨List.mem_of_getElem? (i := 60) (by decide +kernel), by decide +kernel⟩⟩
theorem mt_yX12_gives : jMth yX12_gives cX12_gives 4 (some .int) 2 := ⟨wd_1527, wd_13, ⟨by decide +kernel, by decide +kernel, by decide +kernel⟩, by decide +kernel⟩
theorem mv_yX12_gives : Cond.instanceMethod yX12_gives ∈ lw_g ∧ Cond.selects yX12_gives.cls yX12_gives yX12_gives ∈ lw_g := ⟨wd_1526, List.mem_filter.mpr ⟨List.mem_of_getElem? (i := 48) (by decide +kernel), by decide +kernel⟩⟩
theorem mt_yX12_halvesOf : jMth yX12_halvesOf cX12_halvesOf 1 (some .int) 1 := ⟨wd_1486, wd_13, ⟨by decide +kernel, by decide +kernel, by decide +kernel⟩, by decide +kernel⟩
theorem ms_yX12_halvesOf : Cond.static yX12_halvesOf ∈ lw_g := wd_1485
theorem mt_yX12_hand : jMth yX12_hand cX12_hand 13 (some .int) 6 := ⟨wd_1743, wd_13, ⟨by decide +kernel, by decide +kernel, by decide +kernel⟩, by decide +kernel⟩
theorem mv_yX12_hand : Cond.instanceMethod yX12_hand ∈ lw_g ∧ Cond.selects yX12_hand.cls yX12_hand yX12_hand ∈ lw_g := ⟨wd_1741, wd_1742⟩
theorem mt_yX12_held : jMth yX12_held cX12_held 4 (some .int) 2 := ⟨wd_1545, wd_13, ⟨by decide +kernel, by decide +kernel, by decide +kernel⟩, by decide +kernel⟩
theorem mv_yX12_held : Cond.instanceMethod yX12_held ∈ lw_g ∧ Cond.selects yX12_held.cls yX12_held yX12_held ∈ lw_g := ⟨wd_1543, wd_1544⟩
theorem mt_yX12_hereOf : jMth yX12_hereOf cX12_hereOf 3 (some .int) 0 := ⟨wd_1837, wd_13, ⟨by decide +kernel, by decide +kernel, by decide +kernel⟩, by decide +kernel⟩
theorem mv_yX12_hereOf : Cond.instanceMethod yX12_hereOf ∈ lw_g ∧ Cond.selects yX12_hereOf.cls yX12_hereOf yX12_hereOf ∈ lw_g := ⟨wd_1836, List.mem_filter.mpr ⟨List.mem_of_getElem? (i := 76) (by decide +kernel), by decide +kernel⟩⟩
theorem mt_yX12_hold : jMth yX12_hold cX12_hold 5 (some .int) 1 := ⟨wd_1711, wd_13, ⟨by decide +kernel, by decide +kernel, by decide +kernel⟩, by decide +kernel⟩
theorem mv_yX12_hold : Cond.instanceMethod yX12_hold ∈ lw_g ∧ Cond.selects yX12_hold.cls yX12_hold yX12_hold ∈ lw_g := ⟨wd_1709, wd_1710⟩
theorem mt_yX12_image : jMth yX12_image cX12_image 3 (some .int) 1 := ⟨wd_1824, wd_13, ⟨by decide +kernel, by decide +kernel, by decide +kernel⟩, by decide +kernel⟩
theorem mv_yX12_image : Cond.instanceMethod yX12_image ∈ lw_g ∧ Cond.selects yX12_image.cls yX12_image yX12_image ∈ lw_g := ⟨wd_1822, wd_1823⟩
theorem mt_yX12_init : jMth yX12_init cX12_init 1 none 0 := ⟨wd_1277, wd_13, ⟨by decide +kernel, by decide +kernel, by decide +kernel⟩, by decide +kernel⟩
theorem mi_yX12_init : Cond.instanceMethod yX12_init ∈ lw_g := wd_1276
theorem mt_yX12_interest : jMth yX12_interest cX12_interest 6 (some .int) 4 := ⟨wd_1481, wd_13, ⟨by decide +kernel, by decide +kernel, by decide +kernel⟩, by decide +kernel⟩
theorem mv_yX12_interest : Cond.instanceMethod yX12_interest ∈ lw_g ∧ Cond.selects yX12_interest.cls yX12_interest yX12_interest ∈ lw_g := ⟨wd_1479, wd_1480⟩
theorem mt_yX12_interestBy : jMth yX12_interestBy cX12_interestBy 7 (some .int) 3 := ⟨wd_1490, wd_13, ⟨by decide +kernel, by decide +kernel, by decide +kernel⟩, by decide +kernel⟩
theorem mv_yX12_interestBy : Cond.instanceMethod yX12_interestBy ∈ lw_g ∧ Cond.selects yX12_interestBy.cls yX12_interestBy yX12_interestBy ∈ lw_g := ⟨wd_1489, List.mem_filter.mpr ⟨List.mem_of_getElem? (i := 45) (by decide +kernel), by decide +kernel⟩⟩
theorem mt_yX12_interestOf : jMth yX12_interestOf cX12_interestOf 3 (some .int) 1 := ⟨wd_1554, wd_13, ⟨by decide +kernel, by decide +kernel, by decide +kernel⟩, by decide +kernel⟩
theorem mv_yX12_interestOf : Cond.instanceMethod yX12_interestOf ∈ lw_g ∧ Cond.selects yX12_interestOf.cls yX12_interestOf yX12_interestOf ∈ lw_g := ⟨wd_1553, List.mem_filter.mpr ⟨List.mem_of_getElem? (i := 51) (by decide +kernel), by decide +kernel⟩⟩
theorem mt_yX12_is : jMth yX12_is cX12_is 2 (some .boolean) 1 := ⟨wd_1421, wd_13, ⟨by decide +kernel, by decide +kernel, by decide +kernel⟩, by decide +kernel⟩
theorem mv_yX12_is : Cond.instanceMethod yX12_is ∈ lw_g ∧ Cond.selects yX12_is.cls yX12_is yX12_is ∈ lw_g := ⟨wd_1420, List.mem_filter.mpr ⟨List.mem_of_getElem? (i := 33) (by decide +kernel), by decide +kernel⟩⟩
theorem mt_yX12_isDigit : jMth yX12_isDigit cX12_isDigit 1 (some .boolean) 1 := ⟨wd_1413, wd_13, ⟨by decide +kernel, by decide +kernel, by decide +kernel⟩, by decide +kernel⟩
theorem ms_yX12_isDigit : Cond.static yX12_isDigit ∈ lw_g := wd_1412
theorem mt_yX12_isFit : jMth yX12_isFit cX12_isFit 6 (some .boolean) 2 := ⟨wd_1703, wd_13, ⟨by decide +kernel, by decide +kernel, by decide +kernel⟩, by decide +kernel⟩
theorem mv_yX12_isFit : Cond.instanceMethod yX12_isFit ∈ lw_g ∧ Cond.selects yX12_isFit.cls yX12_isFit yX12_isFit ∈ lw_g := ⟨wd_1702, List.mem_filter.mpr ⟨List.mem_of_getElem? (i := 68) (by decide +kernel), by decide +kernel⟩⟩
theorem mt_yX12_isHand : jMth yX12_isHand cX12_isHand 5 (some .boolean) 5 := ⟨wd_1735, wd_13, ⟨by decide +kernel, by decide +kernel, by decide +kernel⟩, by decide +kernel⟩
theorem ms_yX12_isHand : Cond.static yX12_isHand ∈ lw_g := wd_1734
theorem mt_yX12_isHeld : jMth yX12_isHeld cX12_isHeld 2 (some .boolean) 1 := ⟨wd_1562, wd_13, ⟨by decide +kernel, by decide +kernel, by decide +kernel⟩, by decide +kernel⟩
theorem mv_yX12_isHeld : Cond.instanceMethod yX12_isHeld ∈ lw_g ∧ Cond.selects yX12_isHeld.cls yX12_isHeld yX12_isHeld ∈ lw_g := ⟨wd_1561, List.mem_filter.mpr ⟨List.mem_of_getElem? (i := 52) (by decide +kernel), by decide +kernel⟩⟩
theorem mt_yX12_isKind : jMth yX12_isKind cX12_isKind 2 (some .boolean) 1 := ⟨wd_1622, wd_13, ⟨by decide +kernel, by decide +kernel, by decide +kernel⟩, by decide +kernel⟩
theorem mv_yX12_isKind : Cond.instanceMethod yX12_isKind ∈ lw_g ∧ Cond.selects yX12_isKind.cls yX12_isKind yX12_isKind ∈ lw_g := ⟨wd_1621, List.mem_filter.mpr ⟨List.mem_of_getElem? (i := 59) (by decide +kernel), by decide +kernel⟩⟩
theorem mt_yX12_isPassed : jMth yX12_isPassed cX12_isPassed 2 (some .boolean) 1 := ⟨wd_1606, wd_13, ⟨by decide +kernel, by decide +kernel, by decide +kernel⟩, by decide +kernel⟩
theorem mv_yX12_isPassed : Cond.instanceMethod yX12_isPassed ∈ lw_g ∧ Cond.selects yX12_isPassed.cls yX12_isPassed yX12_isPassed ∈ lw_g := ⟨wd_1605, List.mem_filter.mpr ⟨List.mem_of_getElem? (i := 58) (by decide +kernel), by decide +kernel⟩⟩
theorem mt_yX12_isPerson : jMth yX12_isPerson cX12_isPerson 2 (some .boolean) 1 := ⟨wd_1509, wd_13, ⟨by decide +kernel, by decide +kernel, by decide +kernel⟩, by decide +kernel⟩
theorem mv_yX12_isPerson : Cond.instanceMethod yX12_isPerson ∈ lw_g ∧ Cond.selects yX12_isPerson.cls yX12_isPerson yX12_isPerson ∈ lw_g := ⟨wd_1508, List.mem_filter.mpr ⟨List.mem_of_getElem? (i := 46) (by decide +kernel), by decide +kernel⟩⟩
theorem mt_yX12_isPledge : jMth yX12_isPledge cX12_isPledge 2 (some .boolean) 1 := ⟨wd_1582, wd_13, ⟨by decide +kernel, by decide +kernel, by decide +kernel⟩, by decide +kernel⟩
theorem mv_yX12_isPledge : Cond.instanceMethod yX12_isPledge ∈ lw_g ∧ Cond.selects yX12_isPledge.cls yX12_isPledge yX12_isPledge ∈ lw_g := ⟨wd_1581, List.mem_filter.mpr ⟨List.mem_of_getElem? (i := 55) (by decide +kernel), by decide +kernel⟩⟩
theorem mt_yX12_isSmall : jMth yX12_isSmall cX12_isSmall 1 (some .boolean) 1 := ⟨wd_1403, wd_13, ⟨by decide +kernel, by decide +kernel, by decide +kernel⟩, by decide +kernel⟩
theorem ms_yX12_isSmall : Cond.static yX12_isSmall ∈ lw_g := wd_1402
theorem mt_yX12_isTaken : jMth yX12_isTaken cX12_isTaken 5 (some .boolean) 2 := ⟨wd_1802, wd_13, ⟨by decide +kernel, by decide +kernel, by decide +kernel⟩, by decide +kernel⟩
theorem mv_yX12_isTaken : Cond.instanceMethod yX12_isTaken ∈ lw_g ∧ Cond.selects yX12_isTaken.cls yX12_isTaken yX12_isTaken ∈ lw_g := ⟨wd_1801, List.mem_filter.mpr ⟨List.mem_of_getElem? (i := 75) (by decide +kernel), by decide +kernel⟩⟩
theorem mt_yX12_keyAt : jMth yX12_keyAt cX12_keyAt 4 (some .int) 0 := ⟨wd_1407, wd_13, ⟨by decide +kernel, by decide +kernel, by decide +kernel⟩, by decide +kernel⟩
theorem mv_yX12_keyAt : Cond.instanceMethod yX12_keyAt ∈ lw_g ∧ Cond.selects yX12_keyAt.cls yX12_keyAt yX12_keyAt ∈ lw_g := ⟨wd_1406, List.mem_filter.mpr ⟨List.mem_of_getElem? (i := 31) (by decide +kernel), by decide +kernel⟩⟩
theorem mt_yX12_kills : jMth yX12_kills cX12_kills 3 none 1 := ⟨wd_1570, wd_13, ⟨by decide +kernel, by decide +kernel, by decide +kernel⟩, by decide +kernel⟩
theorem mv_yX12_kills : Cond.instanceMethod yX12_kills ∈ lw_g ∧ Cond.selects yX12_kills.cls yX12_kills yX12_kills ∈ lw_g := ⟨wd_1569, List.mem_filter.mpr ⟨List.mem_of_getElem? (i := 54) (by decide +kernel), by decide +kernel⟩⟩
theorem mt_yX12_kind : jMth yX12_kind cX12_kind 7 (some .int) 5 := ⟨wd_1494, wd_13, ⟨by decide +kernel, by decide +kernel, by decide +kernel⟩, by decide +kernel⟩
theorem mv_yX12_kind : Cond.instanceMethod yX12_kind ∈ lw_g ∧ Cond.selects yX12_kind.cls yX12_kind yX12_kind ∈ lw_g := ⟨wd_1492, wd_1493⟩
theorem mt_yX12_leaves : jMth yX12_leaves cX12_leaves 3 none 2 := ⟨wd_1566, wd_13, ⟨by decide +kernel, by decide +kernel, by decide +kernel⟩, by decide +kernel⟩
theorem mv_yX12_leaves : Cond.instanceMethod yX12_leaves ∈ lw_g ∧ Cond.selects yX12_leaves.cls yX12_leaves yX12_leaves ∈ lw_g := ⟨wd_1565, List.mem_filter.mpr ⟨List.mem_of_getElem? (i := 53) (by decide +kernel), by decide +kernel⟩⟩
theorem mt_yX12_leftOn : jMth yX12_leftOn cX12_leftOn 4 (some .int) 1 := ⟨wd_1648, wd_13, ⟨by decide +kernel, by decide +kernel, by decide +kernel⟩, by decide +kernel⟩
theorem mv_yX12_leftOn : Cond.instanceMethod yX12_leftOn ∈ lw_g ∧ Cond.selects yX12_leftOn.cls yX12_leftOn yX12_leftOn ∈ lw_g := ⟨wd_1647, List.mem_filter.mpr ⟨List.mem_of_getElem? (i := 61) (by decide +kernel), by decide +kernel⟩⟩
theorem mt_yX12_lend : jMth yX12_lend cX12_lend 6 (some .int) 3 := ⟨wd_1618, wd_13, ⟨by decide +kernel, by decide +kernel, by decide +kernel⟩, by decide +kernel⟩
theorem mv_yX12_lend : Cond.instanceMethod yX12_lend ∈ lw_g ∧ Cond.selects yX12_lend.cls yX12_lend yX12_lend ∈ lw_g := ⟨wd_1616, wd_1617⟩
theorem mt_yX12_life : jMth yX12_life cX12_life 7 (some .int) 5 := ⟨wd_1674, wd_13, ⟨by decide +kernel, by decide +kernel, by decide +kernel⟩, by decide +kernel⟩
theorem mv_yX12_life : Cond.instanceMethod yX12_life ∈ lw_g ∧ Cond.selects yX12_life.cls yX12_life yX12_life ∈ lw_g := ⟨wd_1672, wd_1673⟩
theorem mt_yX12_lifeOf : jMth yX12_lifeOf cX12_lifeOf 9 (some .int) 4 := ⟨wd_1683, wd_13, ⟨by decide +kernel, by decide +kernel, by decide +kernel⟩, by decide +kernel⟩
theorem mv_yX12_lifeOf : Cond.instanceMethod yX12_lifeOf ∈ lw_g ∧ Cond.selects yX12_lifeOf.cls yX12_lifeOf yX12_lifeOf ∈ lw_g := ⟨wd_1682, List.mem_filter.mpr ⟨List.mem_of_getElem? (i := 66) (by decide +kernel), by decide +kernel⟩⟩
theorem mt_yX12_list : jMth yX12_list cX12_list 4 (some .int) 2 := ⟨wd_1782, wd_13, ⟨by decide +kernel, by decide +kernel, by decide +kernel⟩, by decide +kernel⟩
theorem mv_yX12_list : Cond.instanceMethod yX12_list ∈ lw_g ∧ Cond.selects yX12_list.cls yX12_list yX12_list ∈ lw_g := ⟨wd_1780, wd_1781⟩
theorem mt_yX12_lots : jMth yX12_lots cX12_lots 8 (some .int) 2 := ⟨wd_1691, wd_13, ⟨by decide +kernel, by decide +kernel, by decide +kernel⟩, by decide +kernel⟩
theorem mv_yX12_lots : Cond.instanceMethod yX12_lots ∈ lw_g ∧ Cond.selects yX12_lots.cls yX12_lots yX12_lots ∈ lw_g := ⟨wd_1689, wd_1690⟩
theorem mt_yX12_lotsDo : jMth yX12_lotsDo cX12_lotsDo 8 (some .boolean) 4 := ⟨wd_1695, wd_13, ⟨by decide +kernel, by decide +kernel, by decide +kernel⟩, by decide +kernel⟩
theorem mv_yX12_lotsDo : Cond.instanceMethod yX12_lotsDo ∈ lw_g ∧ Cond.selects yX12_lotsDo.cls yX12_lotsDo yX12_lotsDo ∈ lw_g := ⟨wd_1694, List.mem_filter.mpr ⟨List.mem_of_getElem? (i := 67) (by decide +kernel), by decide +kernel⟩⟩
theorem mt_yX12_match : jMth yX12_match cX12_match 6 (some .int) 1 := ⟨wd_1786, wd_13, ⟨by decide +kernel, by decide +kernel, by decide +kernel⟩, by decide +kernel⟩
theorem mv_yX12_match : Cond.instanceMethod yX12_match ∈ lw_g ∧ Cond.selects yX12_match.cls yX12_match yX12_match ∈ lw_g := ⟨wd_1784, wd_1785⟩
theorem mt_yX12_matches : jMth yX12_matches cX12_matches 5 (some .int) 1 := ⟨wd_1790, wd_13, ⟨by decide +kernel, by decide +kernel, by decide +kernel⟩, by decide +kernel⟩
theorem mv_yX12_matches : Cond.instanceMethod yX12_matches ∈ lw_g ∧ Cond.selects yX12_matches.cls yX12_matches yX12_matches ∈ lw_g := ⟨wd_1789, List.mem_filter.mpr ⟨List.mem_of_getElem? (i := 72) (by decide +kernel), by decide +kernel⟩⟩
theorem mt_yX12_mayBe : jMth yX12_mayBe cX12_mayBe 3 (some .boolean) 2 := ⟨wd_1798, wd_13, ⟨by decide +kernel, by decide +kernel, by decide +kernel⟩, by decide +kernel⟩
theorem mv_yX12_mayBe : Cond.instanceMethod yX12_mayBe ∈ lw_g ∧ Cond.selects yX12_mayBe.cls yX12_mayBe yX12_mayBe ∈ lw_g := ⟨wd_1797, List.mem_filter.mpr ⟨List.mem_of_getElem? (i := 74) (by decide +kernel), by decide +kernel⟩⟩
theorem mt_yX12_mothed : jMth yX12_mothed cX12_mothed 4 (some .int) 2 := ⟨wd_1598, wd_13, ⟨by decide +kernel, by decide +kernel, by decide +kernel⟩, by decide +kernel⟩
theorem mv_yX12_mothed : Cond.instanceMethod yX12_mothed ∈ lw_g ∧ Cond.selects yX12_mothed.cls yX12_mothed yX12_mothed ∈ lw_g := ⟨wd_1597, List.mem_filter.mpr ⟨List.mem_of_getElem? (i := 57) (by decide +kernel), by decide +kernel⟩⟩
theorem mt_yX12_mothedLow : jMth yX12_mothedLow cX12_mothedLow 2 (some .int) 1 := ⟨wd_1594, wd_13, ⟨by decide +kernel, by decide +kernel, by decide +kernel⟩, by decide +kernel⟩
theorem mv_yX12_mothedLow : Cond.instanceMethod yX12_mothedLow ∈ lw_g ∧ Cond.selects yX12_mothedLow.cls yX12_mothedLow yX12_mothedLow ∈ lw_g := ⟨wd_1593, List.mem_filter.mpr ⟨List.mem_of_getElem? (i := 56) (by decide +kernel), by decide +kernel⟩⟩
theorem mt_yX12_musts : jMth yX12_musts cX12_musts 2 none 1 := ⟨wd_1437, wd_13, ⟨by decide +kernel, by decide +kernel, by decide +kernel⟩, by decide +kernel⟩
theorem mv_yX12_musts : Cond.instanceMethod yX12_musts ∈ lw_g ∧ Cond.selects yX12_musts.cls yX12_musts yX12_musts ∈ lw_g := ⟨wd_1436, List.mem_filter.mpr ⟨List.mem_of_getElem? (i := 37) (by decide +kernel), by decide +kernel⟩⟩
theorem mt_yX12_needs : jMth yX12_needs cX12_needs 7 (some .int) 4 := ⟨wd_1687, wd_13, ⟨by decide +kernel, by decide +kernel, by decide +kernel⟩, by decide +kernel⟩
theorem mv_yX12_needs : Cond.instanceMethod yX12_needs ∈ lw_g ∧ Cond.selects yX12_needs.cls yX12_needs yX12_needs ∈ lw_g := ⟨wd_1685, wd_1686⟩
theorem mt_yX12_next : jMth yX12_next cX12_next 1 none 0 := ⟨wd_1396, wd_13, ⟨by decide +kernel, by decide +kernel, by decide +kernel⟩, by decide +kernel⟩
theorem mv_yX12_next : Cond.instanceMethod yX12_next ∈ lw_g ∧ Cond.selects yX12_next.cls yX12_next yX12_next ∈ lw_g := ⟨wd_1395, List.mem_filter.mpr ⟨List.mem_of_getElem? (i := 29) (by decide +kernel), by decide +kernel⟩⟩
theorem mt_yX12_numberOf : jMth yX12_numberOf cX12_numberOf 1 (some .int) 1 := ⟨wd_1530, wd_13, ⟨by decide +kernel, by decide +kernel, by decide +kernel⟩, by decide +kernel⟩
theorem ms_yX12_numberOf : Cond.static yX12_numberOf ∈ lw_g := wd_1529
theorem mt_yX12_of : jMth yX12_of cX12_of 3 (some .int) 2 := ⟨wd_1590, wd_13, ⟨by decide +kernel, by decide +kernel, by decide +kernel⟩, by decide +kernel⟩
theorem mv_yX12_of : Cond.instanceMethod yX12_of ∈ lw_g ∧ Cond.selects yX12_of.cls yX12_of yX12_of ∈ lw_g := ⟨wd_1588, wd_1589⟩
theorem mt_yX12_other : jMth yX12_other cX12_other 2 (some .int) 0 := ⟨wd_1477, wd_13, ⟨by decide +kernel, by decide +kernel, by decide +kernel⟩, by decide +kernel⟩
theorem mv_yX12_other : Cond.instanceMethod yX12_other ∈ lw_g ∧ Cond.selects yX12_other.cls yX12_other yX12_other ∈ lw_g := ⟨wd_1475, wd_1476⟩
theorem mt_yX12_over : jMth yX12_over cX12_over 3 (some .int) 1 := ⟨wd_1614, wd_13, ⟨by decide +kernel, by decide +kernel, by decide +kernel⟩, by decide +kernel⟩
theorem mv_yX12_over : Cond.instanceMethod yX12_over ∈ lw_g ∧ Cond.selects yX12_over.cls yX12_over yX12_over ∈ lw_g := ⟨wd_1612, wd_1613⟩
theorem mt_yX12_passed : jMth yX12_passed cX12_passed 4 (some .int) 1 := ⟨wd_1602, wd_13, ⟨by decide +kernel, by decide +kernel, by decide +kernel⟩, by decide +kernel⟩
theorem mv_yX12_passed : Cond.instanceMethod yX12_passed ∈ lw_g ∧ Cond.selects yX12_passed.cls yX12_passed yX12_passed ∈ lw_g := ⟨wd_1600, wd_1601⟩
theorem mt_yX12_person : jMth yX12_person cX12_person 6 (some .int) 4 := ⟨wd_1500, wd_13, ⟨by decide +kernel, by decide +kernel, by decide +kernel⟩, by decide +kernel⟩
theorem mv_yX12_person : Cond.instanceMethod yX12_person ∈ lw_g ∧ Cond.selects yX12_person.cls yX12_person yX12_person ∈ lw_g := ⟨wd_1498, wd_1499⟩
theorem mt_yX12_pledge : jMth yX12_pledge cX12_pledge 4 (some .int) 3 := ⟨wd_1519, wd_13, ⟨by decide +kernel, by decide +kernel, by decide +kernel⟩, by decide +kernel⟩
theorem mv_yX12_pledge : Cond.instanceMethod yX12_pledge ∈ lw_g ∧ Cond.selects yX12_pledge.cls yX12_pledge yX12_pledge ∈ lw_g := ⟨wd_1517, wd_1518⟩
theorem mt_yX12_pledges : jMth yX12_pledges cX12_pledges 9 (some .int) 3 := ⟨wd_1523, wd_13, ⟨by decide +kernel, by decide +kernel, by decide +kernel⟩, by decide +kernel⟩
theorem mv_yX12_pledges : Cond.instanceMethod yX12_pledges ∈ lw_g ∧ Cond.selects yX12_pledges.cls yX12_pledges yX12_pledges ∈ lw_g := ⟨wd_1522, List.mem_filter.mpr ⟨List.mem_of_getElem? (i := 47) (by decide +kernel), by decide +kernel⟩⟩
theorem mt_yX12_purse : jMth yX12_purse cX12_purse 2 (some .int) 1 := ⟨wd_1505, wd_13, ⟨by decide +kernel, by decide +kernel, by decide +kernel⟩, by decide +kernel⟩
theorem mv_yX12_purse : Cond.instanceMethod yX12_purse ∈ lw_g ∧ Cond.selects yX12_purse.cls yX12_purse yX12_purse ∈ lw_g := ⟨wd_1503, wd_1504⟩
theorem mt_yX12_put : jMth yX12_put cX12_put 3 (some .int) 2 := ⟨wd_1644, wd_13, ⟨by decide +kernel, by decide +kernel, by decide +kernel⟩, by decide +kernel⟩
theorem mv_yX12_put : Cond.instanceMethod yX12_put ∈ lw_g ∧ Cond.selects yX12_put.cls yX12_put yX12_put ∈ lw_g := ⟨wd_1642, wd_1643⟩
theorem mt_yX12_rack : jMth yX12_rack cX12_rack 4 (some .int) 2 := ⟨wd_1640, wd_13, ⟨by decide +kernel, by decide +kernel, by decide +kernel⟩, by decide +kernel⟩
theorem mv_yX12_rack : Cond.instanceMethod yX12_rack ∈ lw_g ∧ Cond.selects yX12_rack.cls yX12_rack yX12_rack ∈ lw_g := ⟨wd_1638, wd_1639⟩
theorem mt_yX12_readFact : jMth yX12_readFact cX12_readFact 3 none 0 := ⟨wd_1463, wd_13, ⟨by decide +kernel, by decide +kernel, by decide +kernel⟩, by decide +kernel⟩
theorem mv_yX12_readFact : Cond.instanceMethod yX12_readFact ∈ lw_g ∧ Cond.selects yX12_readFact.cls yX12_readFact yX12_readFact ∈ lw_g := ⟨wd_1462, List.mem_filter.mpr ⟨List.mem_of_getElem? (i := 43) (by decide +kernel), by decide +kernel⟩⟩
theorem mt_yX12_readLine : jMth yX12_readLine cX12_readLine 1 none 0 := ⟨wd_1417, wd_13, ⟨by decide +kernel, by decide +kernel, by decide +kernel⟩, by decide +kernel⟩
theorem mv_yX12_readLine : Cond.instanceMethod yX12_readLine ∈ lw_g ∧ Cond.selects yX12_readLine.cls yX12_readLine yX12_readLine ∈ lw_g := ⟨wd_1416, List.mem_filter.mpr ⟨List.mem_of_getElem? (i := 32) (by decide +kernel), by decide +kernel⟩⟩
theorem mt_yX12_readLook : jMth yX12_readLook cX12_readLook 2 none 0 := ⟨wd_1451, wd_13, ⟨by decide +kernel, by decide +kernel, by decide +kernel⟩, by decide +kernel⟩
theorem mv_yX12_readLook : Cond.instanceMethod yX12_readLook ∈ lw_g ∧ Cond.selects yX12_readLook.cls yX12_readLook yX12_readLook ∈ lw_g := ⟨wd_1450, List.mem_filter.mpr ⟨List.mem_of_getElem? (i := 40) (by decide +kernel), by decide +kernel⟩⟩
theorem mt_yX12_readOnce : jMth yX12_readOnce cX12_readOnce 5 none 0 := ⟨wd_1447, wd_13, ⟨by decide +kernel, by decide +kernel, by decide +kernel⟩, by decide +kernel⟩
theorem mv_yX12_readOnce : Cond.instanceMethod yX12_readOnce ∈ lw_g ∧ Cond.selects yX12_readOnce.cls yX12_readOnce yX12_readOnce ∈ lw_g := ⟨wd_1446, List.mem_filter.mpr ⟨List.mem_of_getElem? (i := 39) (by decide +kernel), by decide +kernel⟩⟩
theorem mt_yX12_readPart : jMth yX12_readPart cX12_readPart 1 none 0 := ⟨wd_1459, wd_13, ⟨by decide +kernel, by decide +kernel, by decide +kernel⟩, by decide +kernel⟩
theorem mv_yX12_readPart : Cond.instanceMethod yX12_readPart ∈ lw_g ∧ Cond.selects yX12_readPart.cls yX12_readPart yX12_readPart ∈ lw_g := ⟨wd_1458, List.mem_filter.mpr ⟨List.mem_of_getElem? (i := 42) (by decide +kernel), by decide +kernel⟩⟩
theorem mt_yX12_readTest : jMth yX12_readTest cX12_readTest 1 none 0 := ⟨wd_1455, wd_13, ⟨by decide +kernel, by decide +kernel, by decide +kernel⟩, by decide +kernel⟩
theorem mv_yX12_readTest : Cond.instanceMethod yX12_readTest ∈ lw_g ∧ Cond.selects yX12_readTest.cls yX12_readTest yX12_readTest ∈ lw_g := ⟨wd_1454, List.mem_filter.mpr ⟨List.mem_of_getElem? (i := 41) (by decide +kernel), by decide +kernel⟩⟩
theorem mt_yX12_readUpto : jMth yX12_readUpto cX12_readUpto 5 none 0 := ⟨wd_1425, wd_13, ⟨by decide +kernel, by decide +kernel, by decide +kernel⟩, by decide +kernel⟩
theorem mv_yX12_readUpto : Cond.instanceMethod yX12_readUpto ∈ lw_g ∧ Cond.selects yX12_readUpto.cls yX12_readUpto yX12_readUpto ∈ lw_g := ⟨wd_1424, List.mem_filter.mpr ⟨List.mem_of_getElem? (i := 34) (by decide +kernel), by decide +kernel⟩⟩
theorem mt_yX12_reads : jMth yX12_reads cX12_reads 4 (some .int) 2 := ⟨wd_1433, wd_13, ⟨by decide +kernel, by decide +kernel, by decide +kernel⟩, by decide +kernel⟩
theorem mv_yX12_reads : Cond.instanceMethod yX12_reads ∈ lw_g ∧ Cond.selects yX12_reads.cls yX12_reads yX12_reads ∈ lw_g := ⟨wd_1432, List.mem_filter.mpr ⟨List.mem_of_getElem? (i := 36) (by decide +kernel), by decide +kernel⟩⟩
theorem mt_yX12_refusesLife : jMth yX12_refusesLife cX12_refusesLife 6 (some .int) 5 := ⟨wd_1678, wd_13, ⟨by decide +kernel, by decide +kernel, by decide +kernel⟩, by decide +kernel⟩
theorem mv_yX12_refusesLife : Cond.instanceMethod yX12_refusesLife ∈ lw_g ∧ Cond.selects yX12_refusesLife.cls yX12_refusesLife yX12_refusesLife ∈ lw_g := ⟨wd_1677, List.mem_filter.mpr ⟨List.mem_of_getElem? (i := 65) (by decide +kernel), by decide +kernel⟩⟩
theorem mt_yX12_renew : jMth yX12_renew cX12_renew 6 (some .int) 1 := ⟨wd_1574, wd_13, ⟨by decide +kernel, by decide +kernel, by decide +kernel⟩, by decide +kernel⟩
theorem mv_yX12_renew : Cond.instanceMethod yX12_renew ∈ lw_g ∧ Cond.selects yX12_renew.cls yX12_renew yX12_renew ∈ lw_g := ⟨wd_1572, wd_1573⟩
theorem mt_yX12_renewals : jMth yX12_renewals cX12_renewals 3 (some .int) 2 := ⟨wd_1774, wd_13, ⟨by decide +kernel, by decide +kernel, by decide +kernel⟩, by decide +kernel⟩
theorem mv_yX12_renewals : Cond.instanceMethod yX12_renewals ∈ lw_g ∧ Cond.selects yX12_renewals.cls yX12_renewals yX12_renewals ∈ lw_g := ⟨wd_1772, wd_1773⟩
theorem mt_yX12_restore : jMth yX12_restore cX12_restore 3 (some .int) 1 := ⟨wd_1828, wd_13, ⟨by decide +kernel, by decide +kernel, by decide +kernel⟩, by decide +kernel⟩
theorem mv_yX12_restore : Cond.instanceMethod yX12_restore ∈ lw_g ∧ Cond.selects yX12_restore.cls yX12_restore yX12_restore ∈ lw_g := ⟨wd_1826, wd_1827⟩
theorem mt_yX12_row : jMth yX12_row cX12_row 5 (some .int) 3 := ⟨wd_1806, wd_13, ⟨by decide +kernel, by decide +kernel, by decide +kernel⟩, by decide +kernel⟩
theorem mv_yX12_row : Cond.instanceMethod yX12_row ∈ lw_g ∧ Cond.selects yX12_row.cls yX12_row yX12_row ∈ lw_g := ⟨wd_1804, wd_1805⟩
theorem mt_yX12_runs : jMth yX12_runs cX12_runs 8 (some .int) 2 := ⟨wd_1715, wd_13, ⟨by decide +kernel, by decide +kernel, by decide +kernel⟩, by decide +kernel⟩
theorem mv_yX12_runs : Cond.instanceMethod yX12_runs ∈ lw_g ∧ Cond.selects yX12_runs.cls yX12_runs yX12_runs ∈ lw_g := ⟨wd_1713, wd_1714⟩
theorem mt_yX12_rush : jMth yX12_rush cX12_rush 7 (some .int) 2 := ⟨wd_1656, wd_13, ⟨by decide +kernel, by decide +kernel, by decide +kernel⟩, by decide +kernel⟩
theorem mv_yX12_rush : Cond.instanceMethod yX12_rush ∈ lw_g ∧ Cond.selects yX12_rush.cls yX12_rush yX12_rush ∈ lw_g := ⟨wd_1654, wd_1655⟩
theorem mt_yX12_sale : jMth yX12_sale cX12_sale 6 (some .int) 2 := ⟨wd_1610, wd_13, ⟨by decide +kernel, by decide +kernel, by decide +kernel⟩, by decide +kernel⟩
theorem mv_yX12_sale : Cond.instanceMethod yX12_sale ∈ lw_g ∧ Cond.selects yX12_sale.cls yX12_sale yX12_sale ∈ lw_g := ⟨wd_1608, wd_1609⟩
theorem mt_yX12_scribe : jMth yX12_scribe cX12_scribe 8 (some .int) 6 := ⟨wd_1732, wd_13, ⟨by decide +kernel, by decide +kernel, by decide +kernel⟩, by decide +kernel⟩
theorem mv_yX12_scribe : Cond.instanceMethod yX12_scribe ∈ lw_g ∧ Cond.selects yX12_scribe.cls yX12_scribe yX12_scribe ∈ lw_g := ⟨wd_1730, wd_1731⟩
theorem mt_yX12_see : jMth yX12_see cX12_see 2 (some .int) 1 := ⟨wd_1400, wd_13, ⟨by decide +kernel, by decide +kernel, by decide +kernel⟩, by decide +kernel⟩
theorem mv_yX12_see : Cond.instanceMethod yX12_see ∈ lw_g ∧ Cond.selects yX12_see.cls yX12_see yX12_see ∈ lw_g := ⟨wd_1399, List.mem_filter.mpr ⟨List.mem_of_getElem? (i := 30) (by decide +kernel), by decide +kernel⟩⟩
theorem mt_yX12_sell : jMth yX12_sell cX12_sell 5 (some .int) 3 := ⟨wd_1586, wd_13, ⟨by decide +kernel, by decide +kernel, by decide +kernel⟩, by decide +kernel⟩
theorem mv_yX12_sell : Cond.instanceMethod yX12_sell ∈ lw_g ∧ Cond.selects yX12_sell.cls yX12_sell yX12_sell ∈ lw_g := ⟨wd_1584, wd_1585⟩
theorem mt_yX12_shilling : jMth yX12_shilling cX12_shilling 4 (some .int) 1 := ⟨wd_1762, wd_13, ⟨by decide +kernel, by decide +kernel, by decide +kernel⟩, by decide +kernel⟩
theorem mv_yX12_shilling : Cond.instanceMethod yX12_shilling ∈ lw_g ∧ Cond.selects yX12_shilling.cls yX12_shilling yX12_shilling ∈ lw_g := ⟨wd_1760, wd_1761⟩
theorem mt_yX12_sinks : jMth yX12_sinks cX12_sinks 5 (some .boolean) 3 := ⟨wd_1758, wd_13, ⟨by decide +kernel, by decide +kernel, by decide +kernel⟩, by decide +kernel⟩
theorem mv_yX12_sinks : Cond.instanceMethod yX12_sinks ∈ lw_g ∧ Cond.selects yX12_sinks.cls yX12_sinks yX12_sinks ∈ lw_g := ⟨wd_1757, List.mem_filter.mpr ⟨List.mem_of_getElem? (i := 70) (by decide +kernel), by decide +kernel⟩⟩
theorem mt_yX12_sizeOf : jMth yX12_sizeOf cX12_sizeOf 2 (some .int) 1 := ⟨wd_1652, wd_13, ⟨by decide +kernel, by decide +kernel, by decide +kernel⟩, by decide +kernel⟩
theorem mv_yX12_sizeOf : Cond.instanceMethod yX12_sizeOf ∈ lw_g ∧ Cond.selects yX12_sizeOf.cls yX12_sizeOf yX12_sizeOf ∈ lw_g := ⟨wd_1651, List.mem_filter.mpr ⟨List.mem_of_getElem? (i := 62) (by decide +kernel), by decide +kernel⟩⟩
theorem mt_yX12_stateOf : jMth yX12_stateOf cX12_stateOf 3 (some .int) 1 := ⟨wd_1538, wd_13, ⟨by decide +kernel, by decide +kernel, by decide +kernel⟩, by decide +kernel⟩
theorem mv_yX12_stateOf : Cond.instanceMethod yX12_stateOf ∈ lw_g ∧ Cond.selects yX12_stateOf.cls yX12_stateOf yX12_stateOf ∈ lw_g := ⟨wd_1537, List.mem_filter.mpr ⟨List.mem_of_getElem? (i := 49) (by decide +kernel), by decide +kernel⟩⟩
theorem mt_yX12_street : jMth yX12_street cX12_street 5 (some .int) 2 := ⟨wd_1754, wd_13, ⟨by decide +kernel, by decide +kernel, by decide +kernel⟩, by decide +kernel⟩
theorem mv_yX12_street : Cond.instanceMethod yX12_street ∈ lw_g ∧ Cond.selects yX12_street.cls yX12_street yX12_street ∈ lw_g := ⟨wd_1752, wd_1753⟩
theorem mt_yX12_suit : jMth yX12_suit cX12_suit 4 (some .int) 3 := ⟨wd_1750, wd_13, ⟨by decide +kernel, by decide +kernel, by decide +kernel⟩, by decide +kernel⟩
theorem mv_yX12_suit : Cond.instanceMethod yX12_suit ∈ lw_g ∧ Cond.selects yX12_suit.cls yX12_suit yX12_suit ∈ lw_g := ⟨wd_1748, wd_1749⟩
theorem mt_yX12_swear : jMth yX12_swear cX12_swear 3 (some .int) 1 := ⟨wd_1578, wd_13, ⟨by decide +kernel, by decide +kernel, by decide +kernel⟩, by decide +kernel⟩
theorem mv_yX12_swear : Cond.instanceMethod yX12_swear ∈ lw_g ∧ Cond.selects yX12_swear.cls yX12_swear yX12_swear ∈ lw_g := ⟨wd_1576, wd_1577⟩
theorem mt_yX12_text : jMth yX12_text cX12_text 6 (some .int) 2 := ⟨wd_1389, wd_13, ⟨by decide +kernel, by decide +kernel, by decide +kernel⟩, by decide +kernel⟩
theorem mv_yX12_text : Cond.instanceMethod yX12_text ∈ lw_g ∧ Cond.selects yX12_text.cls yX12_text yX12_text ∈ lw_g := ⟨wd_1387, wd_1388⟩
theorem mt_yX12_ticket : jMth yX12_ticket cX12_ticket 2 (some .int) 1 := ⟨wd_1534, wd_13, ⟨by decide +kernel, by decide +kernel, by decide +kernel⟩, by decide +kernel⟩
theorem mv_yX12_ticket : Cond.instanceMethod yX12_ticket ∈ lw_g ∧ Cond.selects yX12_ticket.cls yX12_ticket yX12_ticket ∈ lw_g := ⟨wd_1532, wd_1533⟩
theorem mt_yX12_tripOf : jMth yX12_tripOf cX12_tripOf 8 (some .int) 3 := ⟨wd_1770, wd_13, ⟨by decide +kernel, by decide +kernel, by decide +kernel⟩, by decide +kernel⟩
theorem mv_yX12_tripOf : Cond.instanceMethod yX12_tripOf ∈ lw_g ∧ Cond.selects yX12_tripOf.cls yX12_tripOf yX12_tripOf ∈ lw_g := ⟨wd_1769, List.mem_filter.mpr ⟨List.mem_of_getElem? (i := 71) (by decide +kernel), by decide +kernel⟩⟩
theorem mt_yX12_trips : jMth yX12_trips cX12_trips 7 (some .int) 3 := ⟨wd_1766, wd_13, ⟨by decide +kernel, by decide +kernel, by decide +kernel⟩, by decide +kernel⟩
theorem mv_yX12_trips : Cond.instanceMethod yX12_trips ∈ lw_g ∧ Cond.selects yX12_trips.cls yX12_trips yX12_trips ∈ lw_g := ⟨wd_1764, wd_1765⟩
theorem mt_yX12_weeks : jMth yX12_weeks cX12_weeks 2 (some .int) 1 := ⟨wd_1514, wd_13, ⟨by decide +kernel, by decide +kernel, by decide +kernel⟩, by decide +kernel⟩
theorem mv_yX12_weeks : Cond.instanceMethod yX12_weeks ∈ lw_g ∧ Cond.selects yX12_weeks.cls yX12_weeks yX12_weeks ∈ lw_g := ⟨wd_1512, wd_1513⟩
theorem mt_yX12_within : jMth yX12_within cX12_within 6 (some .boolean) 3 := ⟨wd_1392, wd_13, ⟨by decide +kernel, by decide +kernel, by decide +kernel⟩, by decide +kernel⟩
theorem ms_yX12_within : Cond.static yX12_within ∈ lw_g := wd_1391
theorem mt_yX12_worst : jMth yX12_worst cX12_worst 8 (some .int) 2 := ⟨wd_1728, wd_13, ⟨by decide +kernel, by decide +kernel, by decide +kernel⟩, by decide +kernel⟩
theorem mv_yX12_worst : Cond.instanceMethod yX12_worst ∈ lw_g ∧ Cond.selects yX12_worst.cls yX12_worst yX12_worst ∈ lw_g := ⟨wd_1726, wd_1727⟩
theorem mt_yX12_write : jMth yX12_write cX12_write 5 (some .long) 3 := ⟨wd_1811, wd_13, ⟨by decide +kernel, by decide +kernel, by decide +kernel⟩, by decide +kernel⟩
theorem mv_yX12_write : Cond.instanceMethod yX12_write ∈ lw_g ∧ Cond.selects yX12_write.cls yX12_write yX12_write ∈ lw_g := ⟨wd_1809, wd_1810⟩
theorem mt_yX1_charge : jMth yX1_charge cX1_charge 3 (some .int) 2 := ⟨wd_741, wd_3, ⟨by decide +kernel, by decide +kernel, by decide +kernel⟩, by decide +kernel⟩
theorem mv_yX1_charge : Cond.instanceMethod yX1_charge ∈ lw_g ∧ Cond.selects yX1_charge.cls yX1_charge yX1_charge ∈ lw_g := ⟨wd_739, wd_740⟩
theorem mt_yX1_clear : jMth yX1_clear cX1_clear 2 none 0 := ⟨wd_43, wd_3, ⟨by decide +kernel, by decide +kernel, by decide +kernel⟩, by decide +kernel⟩
theorem mv_yX1_clear : Cond.instanceMethod yX1_clear ∈ lw_g ∧ Cond.selects yX1_clear.cls yX1_clear yX1_clear ∈ lw_g := ⟨wd_41, wd_42⟩
theorem mt_yX1_copyFrom : jMth yX1_copyFrom cX1_copyFrom 2 none 1 := ⟨wd_706, wd_3, ⟨by decide +kernel, by decide +kernel, by decide +kernel⟩, by decide +kernel⟩
theorem mv_yX1_copyFrom : Cond.instanceMethod yX1_copyFrom ∈ lw_g ∧ Cond.selects yX1_copyFrom.cls yX1_copyFrom yX1_copyFrom ∈ lw_g := ⟨wd_704, wd_705⟩
theorem mt_yX1_gainParts : jMth yX1_gainParts cX1_gainParts 11 (some .long) 4 := ⟨wd_908, wd_3, ⟨by decide +kernel, by decide +kernel, by decide +kernel⟩, by decide +kernel⟩
theorem mv_yX1_gainParts : Cond.instanceMethod yX1_gainParts ∈ lw_g ∧ Cond.selects yX1_gainParts.cls yX1_gainParts yX1_gainParts ∈ lw_g := ⟨wd_906, wd_907⟩
theorem mt_yX1_greatest : jMth yX1_greatest cX1_greatest 1 (some .int) 0 := ⟨wd_619, wd_3, ⟨by decide +kernel, by decide +kernel, by decide +kernel⟩, by decide +kernel⟩
theorem mv_yX1_greatest : Cond.instanceMethod yX1_greatest ∈ lw_g ∧ Cond.selects yX1_greatest.cls yX1_greatest yX1_greatest ∈ lw_g := ⟨wd_617, wd_618⟩
theorem mt_yX1_halves : jMth yX1_halves cX1_halves 2 (some .int) 2 := ⟨wd_737, wd_3, ⟨by decide +kernel, by decide +kernel, by decide +kernel⟩, by decide +kernel⟩
theorem ms_yX1_halves : Cond.static yX1_halves ∈ lw_g := wd_736
theorem mt_yX1_init : jMth yX1_init cX1_init 1 none 0 := ⟨wd_38, wd_3, ⟨by decide +kernel, by decide +kernel, by decide +kernel⟩, by decide +kernel⟩
theorem mi_yX1_init : Cond.instanceMethod yX1_init ∈ lw_g := wd_37
theorem mt_yX1_lends : jMth yX1_lends cX1_lends 2 (some .boolean) 1 := ⟨wd_733, wd_3, ⟨by decide +kernel, by decide +kernel, by decide +kernel⟩, by decide +kernel⟩
theorem mv_yX1_lends : Cond.instanceMethod yX1_lends ∈ lw_g ∧ Cond.selects yX1_lends.cls yX1_lends yX1_lends ∈ lw_g := ⟨wd_731, wd_732⟩
theorem mt_yX1_takenByHalf : jMth yX1_takenByHalf cX1_takenByHalf 3 (some .int) 1 := ⟨wd_745, wd_3, ⟨by decide +kernel, by decide +kernel, by decide +kernel⟩, by decide +kernel⟩
theorem mv_yX1_takenByHalf : Cond.instanceMethod yX1_takenByHalf ∈ lw_g ∧ Cond.selects yX1_takenByHalf.cls yX1_takenByHalf yX1_takenByHalf ∈ lw_g := ⟨wd_743, wd_744⟩
theorem mt_yX2_add : jMth yX2_add cX2_add 3 none 2 := ⟨wd_682, wd_4, ⟨by decide +kernel, by decide +kernel, by decide +kernel⟩, by decide +kernel⟩
theorem mv_yX2_add : Cond.instanceMethod yX2_add ∈ lw_g ∧ Cond.selects yX2_add.cls yX2_add yX2_add ∈ lw_g := ⟨wd_680, wd_681⟩
theorem mt_yX2_clear : jMth yX2_clear cX2_clear 1 none 0 := ⟨wd_659, wd_4, ⟨by decide +kernel, by decide +kernel, by decide +kernel⟩, by decide +kernel⟩
theorem mv_yX2_clear : Cond.instanceMethod yX2_clear ∈ lw_g ∧ Cond.selects yX2_clear.cls yX2_clear yX2_clear ∈ lw_g := ⟨wd_657, wd_658⟩
theorem mt_yX2_close : jMth yX2_close cX2_close 1 none 0 := ⟨wd_702, wd_4, ⟨by decide +kernel, by decide +kernel, by decide +kernel⟩, by decide +kernel⟩
theorem mv_yX2_close : Cond.instanceMethod yX2_close ∈ lw_g ∧ Cond.selects yX2_close.cls yX2_close yX2_close ∈ lw_g := ⟨wd_700, wd_701⟩
theorem mt_yX2_copyFrom : jMth yX2_copyFrom cX2_copyFrom 2 none 1 := ⟨wd_713, wd_4, ⟨by decide +kernel, by decide +kernel, by decide +kernel⟩, by decide +kernel⟩
theorem mv_yX2_copyFrom : Cond.instanceMethod yX2_copyFrom ∈ lw_g ∧ Cond.selects yX2_copyFrom.cls yX2_copyFrom yX2_copyFrom ∈ lw_g := ⟨wd_711, wd_712⟩
theorem mt_yX2_holds : jMth yX2_holds cX2_holds 7 (some .boolean) 3 := ⟨wd_1064, wd_4, ⟨by decide +kernel, by decide +kernel, by decide +kernel⟩, by decide +kernel⟩
theorem mv_yX2_holds : Cond.instanceMethod yX2_holds ∈ lw_g ∧ Cond.selects yX2_holds.cls yX2_holds yX2_holds ∈ lw_g := ⟨wd_1062, wd_1063⟩
theorem mt_yX2_init : jMth yX2_init cX2_init 1 none 0 := ⟨wd_79, wd_4, ⟨by decide +kernel, by decide +kernel, by decide +kernel⟩, by decide +kernel⟩
theorem mi_yX2_init : Cond.instanceMethod yX2_init ∈ lw_g := wd_78
theorem mt_yX2_isFact : jMth yX2_isFact cX2_isFact 5 (some .boolean) 3 := ⟨wd_1069, wd_4, ⟨by decide +kernel, by decide +kernel, by decide +kernel⟩, by decide +kernel⟩
theorem mv_yX2_isFact : Cond.instanceMethod yX2_isFact ∈ lw_g ∧ Cond.selects yX2_isFact.cls yX2_isFact yX2_isFact ∈ lw_g := ⟨wd_1068, List.mem_filter.mpr ⟨List.mem_of_getElem? (i := 19) (by decide +kernel), by decide +kernel⟩⟩
theorem mt_yX3_copyFrom : jMth yX3_copyFrom cX3_copyFrom 2 none 1 := ⟨wd_1244, wd_6, ⟨by decide +kernel, by decide +kernel, by decide +kernel⟩, by decide +kernel⟩
theorem mv_yX3_copyFrom : Cond.instanceMethod yX3_copyFrom ∈ lw_g ∧ Cond.selects yX3_copyFrom.cls yX3_copyFrom yX3_copyFrom ∈ lw_g := ⟨wd_1242, wd_1243⟩
theorem mt_yX3_init : jMth yX3_init cX3_init 1 none 0 := ⟨wd_146, wd_6, ⟨by decide +kernel, by decide +kernel, by decide +kernel⟩, by decide +kernel⟩
theorem mi_yX3_init : Cond.instanceMethod yX3_init ∈ lw_g := wd_145
theorem mt_yX4_add : jMth yX4_add cX4_add 3 none 2 := ⟨wd_967, wd_12, ⟨by decide +kernel, by decide +kernel, by decide +kernel⟩, by decide +kernel⟩
theorem mv_yX4_add : Cond.instanceMethod yX4_add ∈ lw_g ∧ Cond.selects yX4_add.cls yX4_add yX4_add ∈ lw_g := ⟨wd_966, List.mem_filter.mpr ⟨List.mem_of_getElem? (i := 13) (by decide +kernel), by decide +kernel⟩⟩
theorem mt_yX4_candidates : jMth yX4_candidates cX4_candidates 5 (some .int) 2 := ⟨wd_1188, wd_12, ⟨by decide +kernel, by decide +kernel, by decide +kernel⟩, by decide +kernel⟩
theorem mv_yX4_candidates : Cond.instanceMethod yX4_candidates ∈ lw_g ∧ Cond.selects yX4_candidates.cls yX4_candidates yX4_candidates ∈ lw_g := ⟨wd_1187, List.mem_filter.mpr ⟨List.mem_of_getElem? (i := 24) (by decide +kernel), by decide +kernel⟩⟩
theorem mt_yX4_cutLots : jMth yX4_cutLots cX4_cutLots 7 (some .int) 2 := ⟨wd_1042, wd_12, ⟨by decide +kernel, by decide +kernel, by decide +kernel⟩, by decide +kernel⟩
theorem mv_yX4_cutLots : Cond.instanceMethod yX4_cutLots ∈ lw_g ∧ Cond.selects yX4_cutLots.cls yX4_cutLots yX4_cutLots ∈ lw_g := ⟨wd_1040, wd_1041⟩
theorem mt_yX4_findLeastLots : jMth yX4_findLeastLots cX4_findLeastLots 6 none 1 := ⟨wd_1046, wd_12, ⟨by decide +kernel, by decide +kernel, by decide +kernel⟩, by decide +kernel⟩
theorem mv_yX4_findLeastLots : Cond.instanceMethod yX4_findLeastLots ∈ lw_g ∧ Cond.selects yX4_findLeastLots.cls yX4_findLeastLots yX4_findLeastLots ∈ lw_g := ⟨wd_1045, List.mem_filter.mpr ⟨List.mem_of_getElem? (i := 17) (by decide +kernel), by decide +kernel⟩⟩
theorem mt_yX4_gather : jMth yX4_gather cX4_gather 7 (some .boolean) 3 := ⟨wd_961, wd_12, ⟨by decide +kernel, by decide +kernel, by decide +kernel⟩, by decide +kernel⟩
theorem mv_yX4_gather : Cond.instanceMethod yX4_gather ∈ lw_g ∧ Cond.selects yX4_gather.cls yX4_gather yX4_gather ∈ lw_g := ⟨wd_959, wd_960⟩
theorem mt_yX4_gatherPassed : jMth yX4_gatherPassed cX4_gatherPassed 3 (some .int) 1 := ⟨wd_1036, wd_12, ⟨by decide +kernel, by decide +kernel, by decide +kernel⟩, by decide +kernel⟩
theorem mv_yX4_gatherPassed : Cond.instanceMethod yX4_gatherPassed ∈ lw_g ∧ Cond.selects yX4_gatherPassed.cls yX4_gatherPassed yX4_gatherPassed ∈ lw_g := ⟨wd_1034, wd_1035⟩
theorem mt_yX4_gatherUnracked : jMth yX4_gatherUnracked cX4_gatherUnracked 5 (some .int) 2 := ⟨wd_979, wd_12, ⟨by decide +kernel, by decide +kernel, by decide +kernel⟩, by decide +kernel⟩
theorem mv_yX4_gatherUnracked : Cond.instanceMethod yX4_gatherUnracked ∈ lw_g ∧ Cond.selects yX4_gatherUnracked.cls yX4_gatherUnracked yX4_gatherUnracked ∈ lw_g := ⟨wd_977, wd_978⟩
theorem mt_yX4_init : jMth yX4_init cX4_init 1 none 0 := ⟨wd_454, wd_12, ⟨by decide +kernel, by decide +kernel, by decide +kernel⟩, by decide +kernel⟩
theorem mi_yX4_init : Cond.instanceMethod yX4_init ∈ lw_g := wd_453
theorem mt_yX4_isRoomTo : jMth yX4_isRoomTo cX4_isRoomTo 4 (some .boolean) 2 := ⟨wd_1180, wd_12, ⟨by decide +kernel, by decide +kernel, by decide +kernel⟩, by decide +kernel⟩
theorem mv_yX4_isRoomTo : Cond.instanceMethod yX4_isRoomTo ∈ lw_g ∧ Cond.selects yX4_isRoomTo.cls yX4_isRoomTo yX4_isRoomTo ∈ lw_g := ⟨wd_1179, List.mem_filter.mpr ⟨List.mem_of_getElem? (i := 22) (by decide +kernel), by decide +kernel⟩⟩
theorem mt_yX4_laterThings : jMth yX4_laterThings cX4_laterThings 8 (some .int) 3 := ⟨wd_1184, wd_12, ⟨by decide +kernel, by decide +kernel, by decide +kernel⟩, by decide +kernel⟩
theorem mv_yX4_laterThings : Cond.instanceMethod yX4_laterThings ∈ lw_g ∧ Cond.selects yX4_laterThings.cls yX4_laterThings yX4_laterThings ∈ lw_g := ⟨wd_1183, List.mem_filter.mpr ⟨List.mem_of_getElem? (i := 23) (by decide +kernel), by decide +kernel⟩⟩
theorem mt_yX4_leastTrips : jMth yX4_leastTrips cX4_leastTrips 7 (some .int) 1 := ⟨wd_1156, wd_12, ⟨by decide +kernel, by decide +kernel, by decide +kernel⟩, by decide +kernel⟩
theorem mv_yX4_leastTrips : Cond.instanceMethod yX4_leastTrips ∈ lw_g ∧ Cond.selects yX4_leastTrips.cls yX4_leastTrips yX4_leastTrips ∈ lw_g := ⟨wd_1154, wd_1155⟩
theorem mt_yX4_longestAhead : jMth yX4_longestAhead cX4_longestAhead 7 (some .int) 3 := ⟨wd_1093, wd_12, ⟨by decide +kernel, by decide +kernel, by decide +kernel⟩, by decide +kernel⟩
theorem mv_yX4_longestAhead : Cond.instanceMethod yX4_longestAhead ∈ lw_g ∧ Cond.selects yX4_longestAhead.cls yX4_longestAhead yX4_longestAhead ∈ lw_g := ⟨wd_1092, List.mem_filter.mpr ⟨List.mem_of_getElem? (i := 20) (by decide +kernel), by decide +kernel⟩⟩
theorem mt_yX4_longestChain : jMth yX4_longestChain cX4_longestChain 5 (some .int) 2 := ⟨wd_1089, wd_12, ⟨by decide +kernel, by decide +kernel, by decide +kernel⟩, by decide +kernel⟩
theorem mv_yX4_longestChain : Cond.instanceMethod yX4_longestChain ∈ lw_g ∧ Cond.selects yX4_longestChain.cls yX4_longestChain yX4_longestChain ∈ lw_g := ⟨wd_1087, wd_1088⟩
theorem mt_yX4_lotEnd : jMth yX4_lotEnd cX4_lotEnd 5 (some .int) 3 := ⟨wd_1052, wd_12, ⟨by decide +kernel, by decide +kernel, by decide +kernel⟩, by decide +kernel⟩
theorem mv_yX4_lotEnd : Cond.instanceMethod yX4_lotEnd ∈ lw_g ∧ Cond.selects yX4_lotEnd.cls yX4_lotEnd yX4_lotEnd ∈ lw_g := ⟨wd_1051, List.mem_filter.mpr ⟨List.mem_of_getElem? (i := 18) (by decide +kernel), by decide +kernel⟩⟩
theorem mt_yX4_matching : jMth yX4_matching cX4_matching 5 (some .int) 2 := ⟨wd_1176, wd_12, ⟨by decide +kernel, by decide +kernel, by decide +kernel⟩, by decide +kernel⟩
theorem mv_yX4_matching : Cond.instanceMethod yX4_matching ∈ lw_g ∧ Cond.selects yX4_matching.cls yX4_matching yX4_matching ∈ lw_g := ⟨wd_1174, wd_1175⟩
theorem mt_yX4_mayBe : jMth yX4_mayBe cX4_mayBe 4 (some .boolean) 3 := ⟨wd_1191, wd_12, ⟨by decide +kernel, by decide +kernel, by decide +kernel⟩, by decide +kernel⟩
theorem ms_yX4_mayBe : Cond.static yX4_mayBe ∈ lw_g := wd_1190
theorem mt_yX4_placeOn : jMth yX4_placeOn cX4_placeOn 11 none 4 := ⟨wd_1005, wd_12, ⟨by decide +kernel, by decide +kernel, by decide +kernel⟩, by decide +kernel⟩
theorem mv_yX4_placeOn : Cond.instanceMethod yX4_placeOn ∈ lw_g ∧ Cond.selects yX4_placeOn.cls yX4_placeOn yX4_placeOn ∈ lw_g := ⟨wd_1004, List.mem_filter.mpr ⟨List.mem_of_getElem? (i := 15) (by decide +kernel), by decide +kernel⟩⟩
theorem mt_yX4_placing : jMth yX4_placing cX4_placing 7 (some .int) 3 := ⟨wd_992, wd_12, ⟨by decide +kernel, by decide +kernel, by decide +kernel⟩, by decide +kernel⟩
theorem mv_yX4_placing : Cond.instanceMethod yX4_placing ∈ lw_g ∧ Cond.selects yX4_placing.cls yX4_placing yX4_placing ∈ lw_g := ⟨wd_990, wd_991⟩
theorem mt_yX4_stepsTogether : jMth yX4_stepsTogether cX4_stepsTogether 3 (some .int) 0 := ⟨wd_971, wd_12, ⟨by decide +kernel, by decide +kernel, by decide +kernel⟩, by decide +kernel⟩
theorem mv_yX4_stepsTogether : Cond.instanceMethod yX4_stepsTogether ∈ lw_g ∧ Cond.selects yX4_stepsTogether.cls yX4_stepsTogether yX4_stepsTogether ∈ lw_g := ⟨wd_969, wd_970⟩
theorem mt_yX4_sumSets : jMth yX4_sumSets cX4_sumSets 6 none 1 := ⟨wd_996, wd_12, ⟨by decide +kernel, by decide +kernel, by decide +kernel⟩, by decide +kernel⟩
theorem mv_yX4_sumSets : Cond.instanceMethod yX4_sumSets ∈ lw_g ∧ Cond.selects yX4_sumSets.cls yX4_sumSets yX4_sumSets ∈ lw_g := ⟨wd_995, List.mem_filter.mpr ⟨List.mem_of_getElem? (i := 14) (by decide +kernel), by decide +kernel⟩⟩
theorem mt_yX4_takeLeast : jMth yX4_takeLeast cX4_takeLeast 4 none 2 := ⟨wd_1195, wd_12, ⟨by decide +kernel, by decide +kernel, by decide +kernel⟩, by decide +kernel⟩
theorem mv_yX4_takeLeast : Cond.instanceMethod yX4_takeLeast ∈ lw_g ∧ Cond.selects yX4_takeLeast.cls yX4_takeLeast yX4_takeLeast ∈ lw_g := ⟨wd_1194, List.mem_filter.mpr ⟨List.mem_of_getElem? (i := 25) (by decide +kernel), by decide +kernel⟩⟩
theorem mt_yX4_weigh : jMth yX4_weigh cX4_weigh 4 (some .boolean) 2 := ⟨wd_983, wd_12, ⟨by decide +kernel, by decide +kernel, by decide +kernel⟩, by decide +kernel⟩
theorem mv_yX4_weigh : Cond.instanceMethod yX4_weigh ∈ lw_g ∧ Cond.selects yX4_weigh.cls yX4_weigh yX4_weigh ∈ lw_g := ⟨wd_981, wd_982⟩
theorem mt_yX5_begin : jMth yX5_begin cX5_begin 5 none 4 := ⟨wd_788, wd_7, ⟨by decide +kernel, by decide +kernel, by decide +kernel⟩, by decide +kernel⟩
theorem mv_yX5_begin : Cond.instanceMethod yX5_begin ∈ lw_g ∧ Cond.selects yX5_begin.cls yX5_begin yX5_begin ∈ lw_g := ⟨wd_786, wd_787⟩
theorem mt_yX5_copyFrom : jMth yX5_copyFrom cX5_copyFrom 2 none 1 := ⟨wd_1248, wd_7, ⟨by decide +kernel, by decide +kernel, by decide +kernel⟩, by decide +kernel⟩
theorem mv_yX5_copyFrom : Cond.instanceMethod yX5_copyFrom ∈ lw_g ∧ Cond.selects yX5_copyFrom.cls yX5_copyFrom yX5_copyFrom ∈ lw_g := ⟨wd_1246, wd_1247⟩
theorem mt_yX5_init : jMth yX5_init cX5_init 1 none 0 := ⟨wd_177, wd_7, ⟨by decide +kernel, by decide +kernel, by decide +kernel⟩, by decide +kernel⟩
theorem mi_yX5_init : Cond.instanceMethod yX5_init ∈ lw_g := wd_176
theorem mt_yX6_begin : jMth yX6_begin cX6_begin 2 none 1 := ⟨wd_541, wd_9, ⟨by decide +kernel, by decide +kernel, by decide +kernel⟩, by decide +kernel⟩
theorem mv_yX6_begin : Cond.instanceMethod yX6_begin ∈ lw_g ∧ Cond.selects yX6_begin.cls yX6_begin yX6_begin ∈ lw_g := ⟨wd_540, List.mem_filter.mpr ⟨List.mem_of_getElem? (i := 0) (by decide +kernel), by decide +kernel⟩⟩
theorem mt_yX6_factHere : jMth yX6_factHere cX6_factHere 1 (some .int) 0 := ⟨wd_686, wd_9, ⟨by decide +kernel, by decide +kernel, by decide +kernel⟩, by decide +kernel⟩
theorem mv_yX6_factHere : Cond.instanceMethod yX6_factHere ∈ lw_g ∧ Cond.selects yX6_factHere.cls yX6_factHere yX6_factHere ∈ lw_g := ⟨wd_685, List.mem_filter.mpr ⟨List.mem_of_getElem? (i := 11) (by decide +kernel), by decide +kernel⟩⟩
theorem mt_yX6_init : jMth yX6_init cX6_init 1 none 0 := ⟨wd_367, wd_9, ⟨by decide +kernel, by decide +kernel, by decide +kernel⟩, by decide +kernel⟩
theorem mi_yX6_init : Cond.instanceMethod yX6_init ∈ lw_g := wd_366
theorem mt_yX6_pass : jMth yX6_pass cX6_pass 2 none 1 := ⟨wd_628, wd_9, ⟨by decide +kernel, by decide +kernel, by decide +kernel⟩, by decide +kernel⟩
theorem mv_yX6_pass : Cond.instanceMethod yX6_pass ∈ lw_g ∧ Cond.selects yX6_pass.cls yX6_pass yX6_pass ∈ lw_g := ⟨wd_627, List.mem_filter.mpr ⟨List.mem_of_getElem? (i := 4) (by decide +kernel), by decide +kernel⟩⟩
theorem mt_yX6_passNumber : jMth yX6_passNumber cX6_passNumber 4 (some .int) 2 := ⟨wd_623, wd_9, ⟨by decide +kernel, by decide +kernel, by decide +kernel⟩, by decide +kernel⟩
theorem mv_yX6_passNumber : Cond.instanceMethod yX6_passNumber ∈ lw_g ∧ Cond.selects yX6_passNumber.cls yX6_passNumber yX6_passNumber ∈ lw_g := ⟨wd_622, List.mem_filter.mpr ⟨List.mem_of_getElem? (i := 3) (by decide +kernel), by decide +kernel⟩⟩
theorem mt_yX6_readFact : jMth yX6_readFact cX6_readFact 3 none 1 := ⟨wd_673, wd_9, ⟨by decide +kernel, by decide +kernel, by decide +kernel⟩, by decide +kernel⟩
theorem mv_yX6_readFact : Cond.instanceMethod yX6_readFact ∈ lw_g ∧ Cond.selects yX6_readFact.cls yX6_readFact yX6_readFact ∈ lw_g := ⟨wd_672, List.mem_filter.mpr ⟨List.mem_of_getElem? (i := 9) (by decide +kernel), by decide +kernel⟩⟩
theorem mt_yX6_readLaw : jMth yX6_readLaw cX6_readLaw 3 (some .boolean) 1 := ⟨wd_537, wd_9, ⟨by decide +kernel, by decide +kernel, by decide +kernel⟩, by decide +kernel⟩
theorem mv_yX6_readLaw : Cond.instanceMethod yX6_readLaw ∈ lw_g ∧ Cond.selects yX6_readLaw.cls yX6_readLaw yX6_readLaw ∈ lw_g := ⟨wd_535, wd_536⟩
theorem mt_yX6_readLooks : jMth yX6_readLooks cX6_readLooks 3 (some .boolean) 1 := ⟨wd_655, wd_9, ⟨by decide +kernel, by decide +kernel, by decide +kernel⟩, by decide +kernel⟩
theorem mv_yX6_readLooks : Cond.instanceMethod yX6_readLooks ∈ lw_g ∧ Cond.selects yX6_readLooks.cls yX6_readLooks yX6_readLooks ∈ lw_g := ⟨wd_653, wd_654⟩
theorem mt_yX6_readOpened : jMth yX6_readOpened cX6_readOpened 3 none 1 := ⟨wd_678, wd_9, ⟨by decide +kernel, by decide +kernel, by decide +kernel⟩, by decide +kernel⟩
theorem mv_yX6_readOpened : Cond.instanceMethod yX6_readOpened ∈ lw_g ∧ Cond.selects yX6_readOpened.cls yX6_readOpened yX6_readOpened ∈ lw_g := ⟨wd_677, List.mem_filter.mpr ⟨List.mem_of_getElem? (i := 10) (by decide +kernel), by decide +kernel⟩⟩
theorem mt_yX6_readPart : jMth yX6_readPart cX6_readPart 3 none 1 := ⟨wd_669, wd_9, ⟨by decide +kernel, by decide +kernel, by decide +kernel⟩, by decide +kernel⟩
theorem mv_yX6_readPart : Cond.instanceMethod yX6_readPart ∈ lw_g ∧ Cond.selects yX6_readPart.cls yX6_readPart yX6_readPart ∈ lw_g := ⟨wd_668, List.mem_filter.mpr ⟨List.mem_of_getElem? (i := 8) (by decide +kernel), by decide +kernel⟩⟩
theorem mt_yX6_readRule : jMth yX6_readRule cX6_readRule 2 none 0 := ⟨wd_633, wd_9, ⟨by decide +kernel, by decide +kernel, by decide +kernel⟩, by decide +kernel⟩
theorem mv_yX6_readRule : Cond.instanceMethod yX6_readRule ∈ lw_g ∧ Cond.selects yX6_readRule.cls yX6_readRule yX6_readRule ∈ lw_g := ⟨wd_632, List.mem_filter.mpr ⟨List.mem_of_getElem? (i := 5) (by decide +kernel), by decide +kernel⟩⟩
theorem mt_yX6_readTest : jMth yX6_readTest cX6_readTest 3 none 1 := ⟨wd_665, wd_9, ⟨by decide +kernel, by decide +kernel, by decide +kernel⟩, by decide +kernel⟩
theorem mv_yX6_readTest : Cond.instanceMethod yX6_readTest ∈ lw_g ∧ Cond.selects yX6_readTest.cls yX6_readTest yX6_readTest ∈ lw_g := ⟨wd_664, List.mem_filter.mpr ⟨List.mem_of_getElem? (i := 7) (by decide +kernel), by decide +kernel⟩⟩
theorem mt_yX6_readUpto : jMth yX6_readUpto cX6_readUpto 2 none 0 := ⟨wd_610, wd_9, ⟨by decide +kernel, by decide +kernel, by decide +kernel⟩, by decide +kernel⟩
theorem mv_yX6_readUpto : Cond.instanceMethod yX6_readUpto ∈ lw_g ∧ Cond.selects yX6_readUpto.cls yX6_readUpto yX6_readUpto ∈ lw_g := ⟨wd_609, List.mem_filter.mpr ⟨List.mem_of_getElem? (i := 1) (by decide +kernel), by decide +kernel⟩⟩
theorem mt_yX6_refuse : jMth yX6_refuse cX6_refuse 2 none 1 := ⟨wd_614, wd_9, ⟨by decide +kernel, by decide +kernel, by decide +kernel⟩, by decide +kernel⟩
theorem mv_yX6_refuse : Cond.instanceMethod yX6_refuse ∈ lw_g ∧ Cond.selects yX6_refuse.cls yX6_refuse yX6_refuse ∈ lw_g := ⟨wd_613, List.mem_filter.mpr ⟨List.mem_of_getElem? (i := 2) (by decide +kernel), by decide +kernel⟩⟩
theorem mt_yX6_ruleHere : jMth yX6_ruleHere cX6_ruleHere 1 (some .int) 0 := ⟨wd_637, wd_9, ⟨by decide +kernel, by decide +kernel, by decide +kernel⟩, by decide +kernel⟩
theorem mv_yX6_ruleHere : Cond.instanceMethod yX6_ruleHere ∈ lw_g ∧ Cond.selects yX6_ruleHere.cls yX6_ruleHere yX6_ruleHere ∈ lw_g := ⟨wd_636, List.mem_filter.mpr ⟨List.mem_of_getElem? (i := 6) (by decide +kernel), by decide +kernel⟩⟩
theorem mt_yX7_begin : jMth yX7_begin cX7_begin 4 none 2 := ⟨wd_1203, wd_11, ⟨by decide +kernel, by decide +kernel, by decide +kernel⟩, by decide +kernel⟩
theorem mv_yX7_begin : Cond.instanceMethod yX7_begin ∈ lw_g ∧ Cond.selects yX7_begin.cls yX7_begin yX7_begin ∈ lw_g := ⟨wd_1201, wd_1202⟩
theorem mt_yX7_cut : jMth yX7_cut cX7_cut 3 (some .long) 1 := ⟨wd_1217, wd_11, ⟨by decide +kernel, by decide +kernel, by decide +kernel⟩, by decide +kernel⟩
theorem mv_yX7_cut : Cond.instanceMethod yX7_cut ∈ lw_g ∧ Cond.selects yX7_cut.cls yX7_cut yX7_cut ∈ lw_g := ⟨wd_1216, List.mem_filter.mpr ⟨List.mem_of_getElem? (i := 26) (by decide +kernel), by decide +kernel⟩⟩
theorem mt_yX7_init : jMth yX7_init cX7_init 1 none 0 := ⟨wd_436, wd_11, ⟨by decide +kernel, by decide +kernel, by decide +kernel⟩, by decide +kernel⟩
theorem mi_yX7_init : Cond.instanceMethod yX7_init ∈ lw_g := wd_435
theorem mt_yX7_set : jMth yX7_set cX7_set 4 (some .long) 2 := ⟨wd_1213, wd_11, ⟨by decide +kernel, by decide +kernel, by decide +kernel⟩, by decide +kernel⟩
theorem mv_yX7_set : Cond.instanceMethod yX7_set ∈ lw_g ∧ Cond.selects yX7_set.cls yX7_set yX7_set ∈ lw_g := ⟨wd_1211, wd_1212⟩
theorem mt_yX7_small : jMth yX7_small cX7_small 4 (some .int) 1 := ⟨wd_987, wd_11, ⟨by decide +kernel, by decide +kernel, by decide +kernel⟩, by decide +kernel⟩
theorem mv_yX7_small : Cond.instanceMethod yX7_small ∈ lw_g ∧ Cond.selects yX7_small.cls yX7_small yX7_small ∈ lw_g := ⟨wd_985, wd_986⟩
theorem mt_yX8_copyFrom : jMth yX8_copyFrom cX8_copyFrom 2 none 1 := ⟨wd_1230, wd_2, ⟨by decide +kernel, by decide +kernel, by decide +kernel⟩, by decide +kernel⟩
theorem mv_yX8_copyFrom : Cond.instanceMethod yX8_copyFrom ∈ lw_g ∧ Cond.selects yX8_copyFrom.cls yX8_copyFrom yX8_copyFrom ∈ lw_g := ⟨wd_1228, wd_1229⟩
theorem mt_yX8_copyRacksAndLists : jMth yX8_copyRacksAndLists cX8_copyRacksAndLists 2 none 1 := ⟨wd_1256, wd_2, ⟨by decide +kernel, by decide +kernel, by decide +kernel⟩, by decide +kernel⟩
theorem mv_yX8_copyRacksAndLists : Cond.instanceMethod yX8_copyRacksAndLists ∈ lw_g ∧ Cond.selects yX8_copyRacksAndLists.cls yX8_copyRacksAndLists yX8_copyRacksAndLists ∈ lw_g := ⟨wd_1255, List.mem_filter.mpr ⟨List.mem_of_getElem? (i := 28) (by decide +kernel), by decide +kernel⟩⟩
theorem mt_yX8_copyRows : jMth yX8_copyRows cX8_copyRows 3 none 2 := ⟨wd_1259, wd_2, ⟨by decide +kernel, by decide +kernel, by decide +kernel⟩, by decide +kernel⟩
theorem ms_yX8_copyRows : Cond.static yX8_copyRows ∈ lw_g := wd_1258
theorem mt_yX8_copyThings : jMth yX8_copyThings cX8_copyThings 3 none 1 := ⟨wd_1236, wd_2, ⟨by decide +kernel, by decide +kernel, by decide +kernel⟩, by decide +kernel⟩
theorem mv_yX8_copyThings : Cond.instanceMethod yX8_copyThings ∈ lw_g ∧ Cond.selects yX8_copyThings.cls yX8_copyThings yX8_copyThings ∈ lw_g := ⟨wd_1235, List.mem_filter.mpr ⟨List.mem_of_getElem? (i := 27) (by decide +kernel), by decide +kernel⟩⟩
theorem mt_yX8_countHere : jMth yX8_countHere cX8_countHere 3 (some .int) 0 := ⟨wd_1272, wd_2, ⟨by decide +kernel, by decide +kernel, by decide +kernel⟩, by decide +kernel⟩
theorem mv_yX8_countHere : Cond.instanceMethod yX8_countHere ∈ lw_g ∧ Cond.selects yX8_countHere.cls yX8_countHere yX8_countHere ∈ lw_g := ⟨wd_1270, wd_1271⟩
theorem mt_yX8_due : jMth yX8_due cX8_due 2 (some .int) 1 := ⟨wd_820, wd_2, ⟨by decide +kernel, by decide +kernel, by decide +kernel⟩, by decide +kernel⟩
theorem mv_yX8_due : Cond.instanceMethod yX8_due ∈ lw_g ∧ Cond.selects yX8_due.cls yX8_due yX8_due ∈ lw_g := ⟨wd_818, wd_819⟩
theorem mt_yX8_enter : jMth yX8_enter cX8_enter 3 none 2 := ⟨wd_792, wd_2, ⟨by decide +kernel, by decide +kernel, by decide +kernel⟩, by decide +kernel⟩
theorem mv_yX8_enter : Cond.instanceMethod yX8_enter ∈ lw_g ∧ Cond.selects yX8_enter.cls yX8_enter yX8_enter ∈ lw_g := ⟨wd_790, wd_791⟩
theorem mt_yX8_fitsLook : jMth yX8_fitsLook cX8_fitsLook 4 (some .boolean) 2 := ⟨wd_1060, wd_2, ⟨by decide +kernel, by decide +kernel, by decide +kernel⟩, by decide +kernel⟩
theorem mv_yX8_fitsLook : Cond.instanceMethod yX8_fitsLook ∈ lw_g ∧ Cond.selects yX8_fitsLook.cls yX8_fitsLook yX8_fitsLook ∈ lw_g := ⟨wd_1058, wd_1059⟩
theorem mt_yX8_hasKind : jMth yX8_hasKind cX8_hasKind 2 (some .boolean) 1 := ⟨wd_781, wd_2, ⟨by decide +kernel, by decide +kernel, by decide +kernel⟩, by decide +kernel⟩
theorem mv_yX8_hasKind : Cond.instanceMethod yX8_hasKind ∈ lw_g ∧ Cond.selects yX8_hasKind.cls yX8_hasKind yX8_hasKind ∈ lw_g := ⟨wd_779, wd_780⟩
theorem mt_yX8_hasPerson : jMth yX8_hasPerson cX8_hasPerson 2 (some .boolean) 1 := ⟨wd_764, wd_2, ⟨by decide +kernel, by decide +kernel, by decide +kernel⟩, by decide +kernel⟩
theorem mv_yX8_hasPerson : Cond.instanceMethod yX8_hasPerson ∈ lw_g ∧ Cond.selects yX8_hasPerson.cls yX8_hasPerson yX8_hasPerson ∈ lw_g := ⟨wd_762, wd_763⟩
theorem mt_yX8_hasPledge : jMth yX8_hasPledge cX8_hasPledge 2 (some .boolean) 1 := ⟨wd_857, wd_2, ⟨by decide +kernel, by decide +kernel, by decide +kernel⟩, by decide +kernel⟩
theorem mv_yX8_hasPledge : Cond.instanceMethod yX8_hasPledge ∈ lw_g ∧ Cond.selects yX8_hasPledge.cls yX8_hasPledge yX8_hasPledge ∈ lw_g := ⟨wd_855, wd_856⟩
theorem mt_yX8_hasRack : jMth yX8_hasRack cX8_hasRack 2 (some .boolean) 1 := ⟨wd_949, wd_2, ⟨by decide +kernel, by decide +kernel, by decide +kernel⟩, by decide +kernel⟩
theorem mv_yX8_hasRack : Cond.instanceMethod yX8_hasRack ∈ lw_g ∧ Cond.selects yX8_hasRack.cls yX8_hasRack yX8_hasRack ∈ lw_g := ⟨wd_947, wd_948⟩
theorem mt_yX8_hundredthsLeft : jMth yX8_hundredthsLeft cX8_hundredthsLeft 2 (some .int) 1 := ⟨wd_874, wd_2, ⟨by decide +kernel, by decide +kernel, by decide +kernel⟩, by decide +kernel⟩
theorem mv_yX8_hundredthsLeft : Cond.instanceMethod yX8_hundredthsLeft ∈ lw_g ∧ Cond.selects yX8_hundredthsLeft.cls yX8_hundredthsLeft yX8_hundredthsLeft ∈ lw_g := ⟨wd_873, List.mem_filter.mpr ⟨List.mem_of_getElem? (i := 12) (by decide +kernel), by decide +kernel⟩⟩
theorem mt_yX8_init : jMth yX8_init cX8_init 2 none 0 := ⟨wd_32, wd_2, ⟨by decide +kernel, by decide +kernel, by decide +kernel⟩, by decide +kernel⟩
theorem mi_yX8_init : Cond.instanceMethod yX8_init ∈ lw_g := wd_31
theorem mt_yX8_interestOf : jMth yX8_interestOf cX8_interestOf 2 (some .int) 1 := ⟨wd_824, wd_2, ⟨by decide +kernel, by decide +kernel, by decide +kernel⟩, by decide +kernel⟩
theorem mv_yX8_interestOf : Cond.instanceMethod yX8_interestOf ∈ lw_g ∧ Cond.selects yX8_interestOf.cls yX8_interestOf yX8_interestOf ∈ lw_g := ⟨wd_822, wd_823⟩
theorem mt_yX8_isHeld : jMth yX8_isHeld cX8_isHeld 2 (some .boolean) 1 := ⟨wd_834, wd_2, ⟨by decide +kernel, by decide +kernel, by decide +kernel⟩, by decide +kernel⟩
theorem mv_yX8_isHeld : Cond.instanceMethod yX8_isHeld ∈ lw_g ∧ Cond.selects yX8_isHeld.cls yX8_isHeld yX8_isHeld ∈ lw_g := ⟨wd_832, wd_833⟩
theorem mt_yX8_isPassed : jMth yX8_isPassed cX8_isPassed 2 (some .boolean) 1 := ⟨wd_887, wd_2, ⟨by decide +kernel, by decide +kernel, by decide +kernel⟩, by decide +kernel⟩
theorem mv_yX8_isPassed : Cond.instanceMethod yX8_isPassed ∈ lw_g ∧ Cond.selects yX8_isPassed.cls yX8_isPassed yX8_isPassed ∈ lw_g := ⟨wd_885, wd_886⟩
theorem mt_yX8_issue : jMth yX8_issue cX8_issue 4 (some .int) 2 := ⟨wd_796, wd_2, ⟨by decide +kernel, by decide +kernel, by decide +kernel⟩, by decide +kernel⟩
theorem mv_yX8_issue : Cond.instanceMethod yX8_issue ∈ lw_g ∧ Cond.selects yX8_issue.cls yX8_issue yX8_issue ∈ lw_g := ⟨wd_794, wd_795⟩
theorem mt_yX8_killTickets : jMth yX8_killTickets cX8_killTickets 3 none 1 := ⟨wd_844, wd_2, ⟨by decide +kernel, by decide +kernel, by decide +kernel⟩, by decide +kernel⟩
theorem mv_yX8_killTickets : Cond.instanceMethod yX8_killTickets ∈ lw_g ∧ Cond.selects yX8_killTickets.cls yX8_killTickets yX8_killTickets ∈ lw_g := ⟨wd_842, wd_843⟩
theorem mt_yX8_lastFigures : jMth yX8_lastFigures cX8_lastFigures 1 (some .int) 1 := ⟨wd_799, wd_2, ⟨by decide +kernel, by decide +kernel, by decide +kernel⟩, by decide +kernel⟩
theorem ms_yX8_lastFigures : Cond.static yX8_lastFigures ∈ lw_g := wd_798
theorem mt_yX8_leave : jMth yX8_leave cX8_leave 3 none 2 := ⟨wd_840, wd_2, ⟨by decide +kernel, by decide +kernel, by decide +kernel⟩, by decide +kernel⟩
theorem mv_yX8_leave : Cond.instanceMethod yX8_leave ∈ lw_g ∧ Cond.selects yX8_leave.cls yX8_leave yX8_leave ∈ lw_g := ⟨wd_838, wd_839⟩
theorem mt_yX8_lendOn : jMth yX8_lendOn cX8_lendOn 4 (some .int) 3 := ⟨wd_777, wd_2, ⟨by decide +kernel, by decide +kernel, by decide +kernel⟩, by decide +kernel⟩
theorem mv_yX8_lendOn : Cond.instanceMethod yX8_lendOn ∈ lw_g ∧ Cond.selects yX8_lendOn.cls yX8_lendOn yX8_lendOn ∈ lw_g := ⟨wd_775, wd_776⟩
theorem mt_yX8_lentLessBack : jMth yX8_lentLessBack cX8_lentLessBack 2 (some .int) 1 := ⟨wd_1105, wd_2, ⟨by decide +kernel, by decide +kernel, by decide +kernel⟩, by decide +kernel⟩
theorem mv_yX8_lentLessBack : Cond.instanceMethod yX8_lentLessBack ∈ lw_g ∧ Cond.selects yX8_lentLessBack.cls yX8_lentLessBack yX8_lentLessBack ∈ lw_g := ⟨wd_1103, wd_1104⟩
theorem mt_yX8_living : jMth yX8_living cX8_living 2 (some .int) 1 := ⟨wd_815, wd_2, ⟨by decide +kernel, by decide +kernel, by decide +kernel⟩, by decide +kernel⟩
theorem mv_yX8_living : Cond.instanceMethod yX8_living ∈ lw_g ∧ Cond.selects yX8_living.cls yX8_living yX8_living ∈ lw_g := ⟨wd_813, wd_814⟩
theorem mt_yX8_mothedHigh : jMth yX8_mothedHigh cX8_mothedHigh 2 (some .int) 1 := ⟨wd_879, wd_2, ⟨by decide +kernel, by decide +kernel, by decide +kernel⟩, by decide +kernel⟩
theorem mv_yX8_mothedHigh : Cond.instanceMethod yX8_mothedHigh ∈ lw_g ∧ Cond.selects yX8_mothedHigh.cls yX8_mothedHigh yX8_mothedHigh ∈ lw_g := ⟨wd_877, wd_878⟩
theorem mt_yX8_mothedLow : jMth yX8_mothedLow cX8_mothedLow 2 (some .int) 1 := ⟨wd_870, wd_2, ⟨by decide +kernel, by decide +kernel, by decide +kernel⟩, by decide +kernel⟩
theorem mv_yX8_mothedLow : Cond.instanceMethod yX8_mothedLow ∈ lw_g ∧ Cond.selects yX8_mothedLow.cls yX8_mothedLow yX8_mothedLow ∈ lw_g := ⟨wd_868, wd_869⟩
theorem mt_yX8_roomLeft : jMth yX8_roomLeft cX8_roomLeft 4 (some .int) 1 := ⟨wd_953, wd_2, ⟨by decide +kernel, by decide +kernel, by decide +kernel⟩, by decide +kernel⟩
theorem mv_yX8_roomLeft : Cond.instanceMethod yX8_roomLeft ∈ lw_g ∧ Cond.selects yX8_roomLeft.cls yX8_roomLeft yX8_roomLeft ∈ lw_g := ⟨wd_951, wd_952⟩
theorem mt_yX8_savedThere : jMth yX8_savedThere cX8_savedThere 4 (some .int) 2 := ⟨wd_1081, wd_2, ⟨by decide +kernel, by decide +kernel, by decide +kernel⟩, by decide +kernel⟩
theorem mv_yX8_savedThere : Cond.instanceMethod yX8_savedThere ∈ lw_g ∧ Cond.selects yX8_savedThere.cls yX8_savedThere yX8_savedThere ∈ lw_g := ⟨wd_1079, wd_1080⟩
theorem mt_yX8_serial : jMth yX8_serial cX8_serial 3 (some .int) 1 := ⟨wd_1124, wd_2, ⟨by decide +kernel, by decide +kernel, by decide +kernel⟩, by decide +kernel⟩
theorem mv_yX8_serial : Cond.instanceMethod yX8_serial ∈ lw_g ∧ Cond.selects yX8_serial.cls yX8_serial yX8_serial ∈ lw_g := ⟨wd_1122, wd_1123⟩
theorem mt_yX8_sinkingPeople : jMth yX8_sinkingPeople cX8_sinkingPeople 6 (some .int) 2 := ⟨wd_1143, wd_2, ⟨by decide +kernel, by decide +kernel, by decide +kernel⟩, by decide +kernel⟩
theorem mv_yX8_sinkingPeople : Cond.instanceMethod yX8_sinkingPeople ∈ lw_g ∧ Cond.selects yX8_sinkingPeople.cls yX8_sinkingPeople yX8_sinkingPeople ∈ lw_g := ⟨wd_1141, wd_1142⟩
theorem mt_yX8_sinkingWeek : jMth yX8_sinkingWeek cX8_sinkingWeek 12 (some .int) 4 := ⟨wd_1023, wd_2, ⟨by decide +kernel, by decide +kernel, by decide +kernel⟩, by decide +kernel⟩
theorem mv_yX8_sinkingWeek : Cond.instanceMethod yX8_sinkingWeek ∈ lw_g ∧ Cond.selects yX8_sinkingWeek.cls yX8_sinkingWeek yX8_sinkingWeek ∈ lw_g := ⟨wd_1021, wd_1022⟩
theorem mt_yX8_standing : jMth yX8_standing cX8_standing 2 (some .int) 1 := ⟨wd_807, wd_2, ⟨by decide +kernel, by decide +kernel, by decide +kernel⟩, by decide +kernel⟩
theorem mv_yX8_standing : Cond.instanceMethod yX8_standing ∈ lw_g ∧ Cond.selects yX8_standing.cls yX8_standing yX8_standing ∈ lw_g := ⟨wd_805, wd_806⟩
theorem mt_yX9_append : jMth yX9_append cX9_append 3 none 1 := ⟨wd_526, wd_10, ⟨by decide +kernel, by decide +kernel, by decide +kernel⟩, by decide +kernel⟩
theorem mv_yX9_append : Cond.instanceMethod yX9_append ∈ lw_g ∧ Cond.selects yX9_append.cls yX9_append yX9_append ∈ lw_g := ⟨wd_524, wd_525⟩
theorem mt_yX9_begin : jMth yX9_begin cX9_begin 2 none 1 := ⟨wd_545, wd_10, ⟨by decide +kernel, by decide +kernel, by decide +kernel⟩, by decide +kernel⟩
theorem mv_yX9_begin : Cond.instanceMethod yX9_begin ∈ lw_g ∧ Cond.selects yX9_begin.cls yX9_begin yX9_begin ∈ lw_g := ⟨wd_543, wd_544⟩
theorem mt_yX9_init : jMth yX9_init cX9_init 1 none 0 := ⟨wd_373, wd_10, ⟨by decide +kernel, by decide +kernel, by decide +kernel⟩, by decide +kernel⟩
theorem mi_yX9_init : Cond.instanceMethod yX9_init ∈ lw_g := wd_372
theorem mt_yX9_isSign : jMth yX9_isSign cX9_isSign 2 (some .boolean) 1 := ⟨wd_651, wd_10, ⟨by decide +kernel, by decide +kernel, by decide +kernel⟩, by decide +kernel⟩
theorem mv_yX9_isSign : Cond.instanceMethod yX9_isSign ∈ lw_g ∧ Cond.selects yX9_isSign.cls yX9_isSign yX9_isSign ∈ lw_g := ⟨wd_649, wd_650⟩
theorem mt_yX9_spells : jMth yX9_spells cX9_spells 3 (some .boolean) 1 := ⟨wd_558, wd_10, ⟨by decide +kernel, by decide +kernel, by decide +kernel⟩, by decide +kernel⟩
theorem mv_yX9_spells : Cond.instanceMethod yX9_spells ∈ lw_g ∧ Cond.selects yX9_spells.cls yX9_spells yX9_spells ∈ lw_g := ⟨wd_556, wd_557⟩
theorem mt_yX9_step : jMth yX9_step cX9_step 1 none 0 := ⟨wd_552, wd_10, ⟨by decide +kernel, by decide +kernel, by decide +kernel⟩, by decide +kernel⟩
theorem mv_yX9_step : Cond.instanceMethod yX9_step ∈ lw_g ∧ Cond.selects yX9_step.cls yX9_step yX9_step ∈ lw_g := ⟨wd_550, wd_551⟩
