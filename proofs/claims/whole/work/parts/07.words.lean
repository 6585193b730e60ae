theorem mt_0 : ∀ w ∈ k2_sels lw_privs, w ∈ lw_tbl := fun _ h => List.mem_append_left _ h
theorem mt_1 : ∀ w ∈ tables_1_1, w ∈ lw_tbl := fun _ h => List.mem_append_right _ (show _ ∈ tables_1 from List.mem_append_left _ h)
theorem mt_2 : ∀ w ∈ tables_1_2, w ∈ lw_tbl := fun _ h => List.mem_append_right _ (show _ ∈ tables_1 from List.mem_append_right _ (List.mem_append_left _ h))
theorem mt_3 : ∀ w ∈ tables_1_3, w ∈ lw_tbl := fun _ h => List.mem_append_right _ (show _ ∈ tables_1 from List.mem_append_right _ (List.mem_append_right _ (List.mem_append_left _ h)))
theorem mt_4 : ∀ w ∈ tables_1_4, w ∈ lw_tbl := fun _ h => List.mem_append_right _ (show _ ∈ tables_1 from List.mem_append_right _ (List.mem_append_right _ (List.mem_append_right _ (List.mem_append_left _ h))))
theorem mt_5 : ∀ w ∈ tables_1_5, w ∈ lw_tbl := fun _ h => List.mem_append_right _ (show _ ∈ tables_1 from List.mem_append_right _ (List.mem_append_right _ (List.mem_append_right _ (List.mem_append_right _ (List.mem_append_left _ h)))))
theorem mt_6 : ∀ w ∈ tables_1_6, w ∈ lw_tbl := fun _ h => List.mem_append_right _ (show _ ∈ tables_1 from List.mem_append_right _ (List.mem_append_right _ (List.mem_append_right _ (List.mem_append_right _ (List.mem_append_right _ (List.mem_append_left _ h))))))
theorem mt_7 : ∀ w ∈ tables_1_7, w ∈ lw_tbl := fun _ h => List.mem_append_right _ (show _ ∈ tables_1 from List.mem_append_right _ (List.mem_append_right _ (List.mem_append_right _ (List.mem_append_right _ (List.mem_append_right _ (List.mem_append_right _ (List.mem_append_left _ h)))))))
theorem mt_8 : ∀ w ∈ tables_1_8, w ∈ lw_tbl := fun _ h => List.mem_append_right _ (show _ ∈ tables_1 from List.mem_append_right _ (List.mem_append_right _ (List.mem_append_right _ (List.mem_append_right _ (List.mem_append_right _ (List.mem_append_right _ (List.mem_append_right _ (h))))))))
theorem w_0 : Cond.selects RX10 yX10_flawOf yX10_flawOf ∈ y_tb := y_in (mt_0 _ (List.mem_of_getElem? (i := 0) rfl)) rfl
theorem w_1 : Cond.selects RX10 yX10_demand yX10_demand ∈ y_tb := y_in (mt_0 _ (List.mem_of_getElem? (i := 1) rfl)) rfl
theorem w_2 : Cond.selects "java/lang/Throwable" ⟨"java/lang/Throwable", "fillInStackTrace", "(I)Ljava/lang/Throwable;"⟩ ⟨"java/lang/Throwable", "fillInStackTrace", "(I)Ljava/lang/Throwable;"⟩ ∈ y_tb := y_in (mt_0 _ (List.mem_of_getElem? (i := 2) rfl)) rfl
theorem w_3 : Cond.selects RX9 yX9_readRow yX9_readRow ∈ y_tb := y_in (mt_0 _ (List.mem_of_getElem? (i := 3) rfl)) rfl
theorem w_4 : Cond.selects RX9 yX9_readItem yX9_readItem ∈ y_tb := y_in (mt_0 _ (List.mem_of_getElem? (i := 4) rfl)) rfl
theorem w_5 : Cond.selects RX9 yX9_readTimes yX9_readTimes ∈ y_tb := y_in (mt_0 _ (List.mem_of_getElem? (i := 5) rfl)) rfl
theorem w_6 : Cond.selects RX9 yX9_failAt yX9_failAt ∈ y_tb := y_in (mt_0 _ (List.mem_of_getElem? (i := 6) rfl)) rfl
theorem w_7 : Cond.selects RX10 yX10_demandDot yX10_demandDot ∈ y_tb := y_in (mt_0 _ (List.mem_of_getElem? (i := 7) rfl)) rfl
theorem w_8 : Cond.selects RX10 yX10_refuseNoSuch yX10_refuseNoSuch ∈ y_tb := y_in (mt_0 _ (List.mem_of_getElem? (i := 8) rfl)) rfl
theorem w_9 : Cond.selects RX4 yX4_meanOfFour yX4_meanOfFour ∈ y_tb := y_in (mt_0 _ (List.mem_of_getElem? (i := 9) rfl)) rfl
theorem w_10 : Cond.selects RX0 yX0_repeat yX0_repeat ∈ y_tb := y_in (mt_0 _ (List.mem_of_getElem? (i := 10) rfl)) rfl
theorem w_11 : Cond.selects RX0 yX0_fillOnce yX0_fillOnce ∈ y_tb := y_in (mt_0 _ (List.mem_of_getElem? (i := 11) rfl)) rfl
theorem w_12 : Cond.selects RX5 yX5_measureSteady yX5_measureSteady ∈ y_tb := y_in (mt_0 _ (List.mem_of_getElem? (i := 12) rfl)) rfl
theorem w_13 : Cond.selects RX5 yX5_measureSlope yX5_measureSlope ∈ y_tb := y_in (mt_0 _ (List.mem_of_getElem? (i := 13) rfl)) rfl
theorem w_14 : Cond.selects RX6 yX6_countUnusable yX6_countUnusable ∈ y_tb := y_in (mt_0 _ (List.mem_of_getElem? (i := 14) rfl)) rfl
theorem w_15 : Cond.selects RX6 yX6_gatherKnown yX6_gatherKnown ∈ y_tb := y_in (mt_0 _ (List.mem_of_getElem? (i := 15) rfl)) rfl
theorem w_16 : Cond.selects RX6 yX6_scan yX6_scan ∈ y_tb := y_in (mt_0 _ (List.mem_of_getElem? (i := 16) rfl)) rfl
theorem w_17 : Cond.selects RX6 yX6_ask yX6_ask ∈ y_tb := y_in (mt_0 _ (List.mem_of_getElem? (i := 17) rfl)) rfl
theorem w_18 : Cond.selects RX0 yX0_copyPatch yX0_copyPatch ∈ y_tb := y_in (mt_0 _ (List.mem_of_getElem? (i := 18) rfl)) rfl
theorem w_19 : Cond.selects RX10 yX10_countFront yX10_countFront ∈ y_tb := y_in (mt_0 _ (List.mem_of_getElem? (i := 19) rfl)) rfl
theorem w_20 : Cond.selects RX3 yX3_spread yX3_spread ∈ y_tb := y_in (mt_0 _ (List.mem_of_getElem? (i := 20) rfl)) rfl
theorem w_21 : Cond.selects RX3 yX3_join yX3_join ∈ y_tb := y_in (mt_0 _ (List.mem_of_getElem? (i := 21) rfl)) rfl
theorem w_22 : Cond.selects RX10 yX10_frontAnswer yX10_frontAnswer ∈ y_tb := y_in (mt_0 _ (List.mem_of_getElem? (i := 22) rfl)) rfl
theorem w_23 : Cond.selects RX10 yX10_demandPart yX10_demandPart ∈ y_tb := y_in (mt_0 _ (List.mem_of_getElem? (i := 23) rfl)) rfl
theorem w_24 : Cond.selects RX10 yX10_startTrial yX10_startTrial ∈ y_tb := y_in (mt_0 _ (List.mem_of_getElem? (i := 24) rfl)) rfl
theorem w_25 : Cond.selects RX10 yX10_isSeam yX10_isSeam ∈ y_tb := y_in (mt_0 _ (List.mem_of_getElem? (i := 25) rfl)) rfl
theorem w_26 : Cond.selects RX11 yX11_known yX11_known ∈ y_tb := y_in (mt_0 _ (List.mem_of_getElem? (i := 26) rfl)) rfl
theorem w_27 : Cond.selects RX11 yX11_forgets yX11_forgets ∈ y_tb := y_in (mt_0 _ (List.mem_of_getElem? (i := 27) rfl)) rfl
theorem w_28 : Cond.selects RX11 yX11_puts yX11_puts ∈ y_tb := y_in (mt_0 _ (List.mem_of_getElem? (i := 28) rfl)) rfl
theorem w_29 : Cond.selects RX11 yX11_isFine yX11_isFine ∈ y_tb := y_in (mt_0 _ (List.mem_of_getElem? (i := 29) rfl)) rfl
theorem w_30 : Cond.selects RX11 yX11_oneRow yX11_oneRow ∈ y_tb := y_in (mt_0 _ (List.mem_of_getElem? (i := 30) rfl)) rfl
theorem w_31 : Cond.selects RX11 yX11_item yX11_item ∈ y_tb := y_in (mt_0 _ (List.mem_of_getElem? (i := 31) rfl)) rfl
theorem w_32 : Cond.selects RX11 yX11_isDigit yX11_isDigit ∈ y_tb := y_in (mt_0 _ (List.mem_of_getElem? (i := 32) rfl)) rfl
theorem w_33 : Cond.selects RX11 yX11_sign yX11_sign ∈ y_tb := y_in (mt_0 _ (List.mem_of_getElem? (i := 33) rfl)) rfl
theorem w_34 : Cond.selects RX11 yX11_wrong yX11_wrong ∈ y_tb := y_in (mt_0 _ (List.mem_of_getElem? (i := 34) rfl)) rfl
theorem w_35 : Cond.selects RX11 yX11_isDot yX11_isDot ∈ y_tb := y_in (mt_0 _ (List.mem_of_getElem? (i := 35) rfl)) rfl
theorem w_36 : Cond.selects RX11 yX11_takes yX11_takes ∈ y_tb := y_in (mt_0 _ (List.mem_of_getElem? (i := 36) rfl)) rfl
theorem w_37 : Cond.selects RX11 yX11_missing yX11_missing ∈ y_tb := y_in (mt_0 _ (List.mem_of_getElem? (i := 37) rfl)) rfl
theorem w_38 : Cond.selects RX11 yX11_missingMany yX11_missingMany ∈ y_tb := y_in (mt_0 _ (List.mem_of_getElem? (i := 38) rfl)) rfl
theorem w_39 : Cond.selects RX11 yX11_knownMany yX11_knownMany ∈ y_tb := y_in (mt_0 _ (List.mem_of_getElem? (i := 39) rfl)) rfl
theorem w_40 : Cond.selects RX11 yX11_isKnown yX11_isKnown ∈ y_tb := y_in (mt_0 _ (List.mem_of_getElem? (i := 40) rfl)) rfl
theorem w_41 : Cond.selects RX11 yX11_has yX11_has ∈ y_tb := y_in (mt_0 _ (List.mem_of_getElem? (i := 41) rfl)) rfl
theorem w_42 : Cond.selects RX11 yX11_keeps yX11_keeps ∈ y_tb := y_in (mt_0 _ (List.mem_of_getElem? (i := 42) rfl)) rfl
theorem w_43 : Cond.selects RX11 yX11_isThere yX11_isThere ∈ y_tb := y_in (mt_0 _ (List.mem_of_getElem? (i := 43) rfl)) rfl
theorem w_44 : Cond.selects RX11 yX11_toneOf yX11_toneOf ∈ y_tb := y_in (mt_0 _ (List.mem_of_getElem? (i := 44) rfl)) rfl
theorem w_45 : Cond.selects RX11 yX11_laysAside yX11_laysAside ∈ y_tb := y_in (mt_0 _ (List.mem_of_getElem? (i := 45) rfl)) rfl
theorem w_46 : Cond.selects RX11 yX11_fillsAll yX11_fillsAll ∈ y_tb := y_in (mt_0 _ (List.mem_of_getElem? (i := 46) rfl)) rfl
theorem w_47 : Cond.selects RX11 yX11_fills yX11_fills ∈ y_tb := y_in (mt_0 _ (List.mem_of_getElem? (i := 47) rfl)) rfl
theorem w_48 : Cond.selects RX11 yX11_findsNext yX11_findsNext ∈ y_tb := y_in (mt_0 _ (List.mem_of_getElem? (i := 48) rfl)) rfl
theorem w_49 : Cond.selects RX11 yX11_isFront yX11_isFront ∈ y_tb := y_in (mt_0 _ (List.mem_of_getElem? (i := 49) rfl)) rfl
theorem w_50 : Cond.selects RX11 yX11_isMissing yX11_isMissing ∈ y_tb := y_in (mt_0 _ (List.mem_of_getElem? (i := 50) rfl)) rfl
theorem w_51 : Cond.selects RX11 yX11_rankOf yX11_rankOf ∈ y_tb := y_in (mt_0 _ (List.mem_of_getElem? (i := 51) rfl)) rfl
theorem w_52 : Cond.selects RX11 yX11_steady yX11_steady ∈ y_tb := y_in (mt_0 _ (List.mem_of_getElem? (i := 52) rfl)) rfl
theorem w_53 : Cond.selects RX11 yX11_flow yX11_flow ∈ y_tb := y_in (mt_0 _ (List.mem_of_getElem? (i := 53) rfl)) rfl
theorem w_54 : Cond.selects RX11 yX11_slopes yX11_slopes ∈ y_tb := y_in (mt_0 _ (List.mem_of_getElem? (i := 54) rfl)) rfl
theorem w_55 : Cond.selects RX11 yX11_outY yX11_outY ∈ y_tb := y_in (mt_0 _ (List.mem_of_getElem? (i := 55) rfl)) rfl
theorem w_56 : Cond.selects RX11 yX11_outX yX11_outX ∈ y_tb := y_in (mt_0 _ (List.mem_of_getElem? (i := 56) rfl)) rfl
theorem w_57 : Cond.selects RX11 yX11_guided yX11_guided ∈ y_tb := y_in (mt_0 _ (List.mem_of_getElem? (i := 57) rfl)) rfl
theorem w_58 : Cond.selects RX11 yX11_begins yX11_begins ∈ y_tb := y_in (mt_0 _ (List.mem_of_getElem? (i := 58) rfl)) rfl
theorem w_59 : Cond.selects RX11 yX11_isWholeSource yX11_isWholeSource ∈ y_tb := y_in (mt_0 _ (List.mem_of_getElem? (i := 59) rfl)) rfl
theorem w_60 : Cond.selects RX11 yX11_isFilled yX11_isFilled ∈ y_tb := y_in (mt_0 _ (List.mem_of_getElem? (i := 60) rfl)) rfl
theorem w_61 : Cond.selects RX11 yX11_asks yX11_asks ∈ y_tb := y_in (mt_0 _ (List.mem_of_getElem? (i := 61) rfl)) rfl
theorem w_62 : Cond.selects RX11 yX11_bounds yX11_bounds ∈ y_tb := y_in (mt_0 _ (List.mem_of_getElem? (i := 62) rfl)) rfl
theorem w_63 : Cond.selects RX11 yX11_apart yX11_apart ∈ y_tb := y_in (mt_0 _ (List.mem_of_getElem? (i := 63) rfl)) rfl
theorem w_64 : Cond.selects RX11 yX11_weight yX11_weight ∈ y_tb := y_in (mt_0 _ (List.mem_of_getElem? (i := 64) rfl)) rfl
theorem w_65 : Cond.selects RX11 yX11_differs yX11_differs ∈ y_tb := y_in (mt_0 _ (List.mem_of_getElem? (i := 65) rfl)) rfl
theorem w_66 : Cond.selects RX11 yX11_searches yX11_searches ∈ y_tb := y_in (mt_0 _ (List.mem_of_getElem? (i := 66) rfl)) rfl
theorem w_67 : Cond.selects RX11 yX11_isNear yX11_isNear ∈ y_tb := y_in (mt_0 _ (List.mem_of_getElem? (i := 67) rfl)) rfl
theorem w_68 : Cond.selects RX11 yX11_fillsOne yX11_fillsOne ∈ y_tb := y_in (mt_0 _ (List.mem_of_getElem? (i := 68) rfl)) rfl
theorem w_69 : Cond.selects RX11 yX11_logs yX11_logs ∈ y_tb := y_in (mt_0 _ (List.mem_of_getElem? (i := 69) rfl)) rfl
theorem w_70 : Cond.selects RX11 yX11_keepsAside yX11_keepsAside ∈ y_tb := y_in (mt_0 _ (List.mem_of_getElem? (i := 70) rfl)) rfl
theorem w_71 : Cond.selects RX11 yX11_guides yX11_guides ∈ y_tb := y_in (mt_0 _ (List.mem_of_getElem? (i := 71) rfl)) rfl
theorem w_72 : Cond.selects RX11 yX11_halves yX11_halves ∈ y_tb := y_in (mt_0 _ (List.mem_of_getElem? (i := 72) rfl)) rfl
theorem w_73 : Cond.selects RX11 yX11_halvesOne yX11_halvesOne ∈ y_tb := y_in (mt_0 _ (List.mem_of_getElem? (i := 73) rfl)) rfl
theorem w_74 : Cond.selects RX11 yX11_isPart yX11_isPart ∈ y_tb := y_in (mt_0 _ (List.mem_of_getElem? (i := 74) rfl)) rfl
theorem w_75 : Cond.selects RX11 yX11_parts yX11_parts ∈ y_tb := y_in (mt_0 _ (List.mem_of_getElem? (i := 75) rfl)) rfl
theorem w_76 : Cond.selects RX11 yX11_spreads yX11_spreads ∈ y_tb := y_in (mt_0 _ (List.mem_of_getElem? (i := 76) rfl)) rfl
theorem w_77 : Cond.selects RX11 yX11_isOf yX11_isOf ∈ y_tb := y_in (mt_0 _ (List.mem_of_getElem? (i := 77) rfl)) rfl
theorem w_78 : Cond.selects RX11 yX11_filledMany yX11_filledMany ∈ y_tb := y_in (mt_0 _ (List.mem_of_getElem? (i := 78) rfl)) rfl
theorem w_79 : Cond.selects RX11 yX11_frontMany yX11_frontMany ∈ y_tb := y_in (mt_0 _ (List.mem_of_getElem? (i := 79) rfl)) rfl
theorem w_80 : Cond.selects RX11 yX11_isAhead yX11_isAhead ∈ y_tb := y_in (mt_0 _ (List.mem_of_getElem? (i := 80) rfl)) rfl
theorem w_81 : Cond.selects RX11 yX11_flawNow yX11_flawNow ∈ y_tb := y_in (mt_0 _ (List.mem_of_getElem? (i := 81) rfl)) rfl
theorem w_82 : Cond.selects RX11 yX11_leastSure yX11_leastSure ∈ y_tb := y_in (mt_0 _ (List.mem_of_getElem? (i := 82) rfl)) rfl
theorem w_83 : Cond.selects RX11 yX11_laysBack yX11_laysBack ∈ y_tb := y_in (mt_0 _ (List.mem_of_getElem? (i := 83) rfl)) rfl
theorem w_84 : Cond.selects RX11 yX11_joint yX11_joint ∈ y_tb := y_in (mt_0 _ (List.mem_of_getElem? (i := 84) rfl)) rfl
theorem w_85 : Cond.initialized RL ∈ y_tb := y_in (mt_1 _ (List.mem_of_getElem? (i := 0) rfl)) rfl
theorem w_86 : Cond.initialized RX10 ∈ y_tb := y_in (mt_1 _ (List.mem_of_getElem? (i := 1) rfl)) rfl
theorem w_87 : Cond.initialized RX9 ∈ y_tb := y_in (mt_1 _ (List.mem_of_getElem? (i := 2) rfl)) rfl
theorem w_88 : Cond.initialized RX7 ∈ y_tb := y_in (mt_1 _ (List.mem_of_getElem? (i := 3) rfl)) rfl
theorem w_89 : Cond.initialized RX4 ∈ y_tb := y_in (mt_1 _ (List.mem_of_getElem? (i := 4) rfl)) rfl
theorem w_90 : Cond.initialized "java/util/Arrays" ∈ y_tb := y_in (mt_1 _ (List.mem_of_getElem? (i := 5) rfl)) rfl
theorem w_91 : Cond.initialized RX2 ∈ y_tb := y_in (mt_1 _ (List.mem_of_getElem? (i := 6) rfl)) rfl
theorem w_92 : Cond.initialized RX1 ∈ y_tb := y_in (mt_1 _ (List.mem_of_getElem? (i := 7) rfl)) rfl
theorem w_93 : Cond.initialized RX8 ∈ y_tb := y_in (mt_1 _ (List.mem_of_getElem? (i := 8) rfl)) rfl
theorem w_94 : Cond.initialized RX5 ∈ y_tb := y_in (mt_1 _ (List.mem_of_getElem? (i := 9) rfl)) rfl
theorem w_95 : Cond.initialized RX6 ∈ y_tb := y_in (mt_1 _ (List.mem_of_getElem? (i := 10) rfl)) rfl
theorem w_96 : Cond.initialized RX3 ∈ y_tb := y_in (mt_1 _ (List.mem_of_getElem? (i := 11) rfl)) rfl
theorem w_97 : Cond.initialized RX0 ∈ y_tb := y_in (mt_1 _ (List.mem_of_getElem? (i := 12) rfl)) rfl
theorem w_98 : Cond.initialized RX11 ∈ y_tb := y_in (mt_1 _ (List.mem_of_getElem? (i := 13) rfl)) rfl
theorem w_99 : Cond.initialized "java/lang/Throwable" ∈ y_tb := y_in (mt_1 _ (List.mem_of_getElem? (i := 14) rfl)) rfl
theorem w_100 : Cond.initialized "java/lang/Exception" ∈ y_tb := y_in (mt_1 _ (List.mem_of_getElem? (i := 15) rfl)) rfl
theorem w_101 : Cond.initialized "java/lang/RuntimeException" ∈ y_tb := y_in (mt_1 _ (List.mem_of_getElem? (i := 16) rfl)) rfl
theorem w_102 : Cond.initialized "java/lang/IllegalArgumentException" ∈ y_tb := y_in (mt_1 _ (List.mem_of_getElem? (i := 17) rfl)) rfl
theorem w_103 : Cond.initialized "java/lang/Math" ∈ y_tb := y_in (mt_1 _ (List.mem_of_getElem? (i := 18) rfl)) rfl
theorem w_104 : Cond.initialized "java/util/NoSuchElementException" ∈ y_tb := y_in (mt_1 _ (List.mem_of_getElem? (i := 19) rfl)) rfl
theorem w_105 : Cond.initialized "java/lang/System" ∈ y_tb := y_in (mt_1 _ (List.mem_of_getElem? (i := 20) rfl)) rfl
theorem w_106 : Cond.classLink RL 8 RX10 ∈ y_tb := y_in (mt_1 _ (List.mem_of_getElem? (i := 21) rfl)) rfl
theorem w_107 : Cond.instantiable RX10 16 ∈ y_tb := y_in (mt_1 _ (List.mem_of_getElem? (i := 22) rfl)) rfl
theorem w_108 : Cond.methodLink RL 93 yX10_init ∈ y_tb := y_in (mt_1 _ (List.mem_of_getElem? (i := 23) rfl)) rfl
theorem w_109 : Cond.instanceMethod yX10_init ∈ y_tb := y_in (mt_1 _ (List.mem_of_getElem? (i := 24) rfl)) rfl
theorem w_110 : Cond.code yX10_init cX10_init 1 none ∈ y_tb := y_in (mt_1 _ (List.mem_of_getElem? (i := 25) rfl)) rfl
theorem w_111 : Cond.methodLink RX10 3 ⟨"java/lang/Object", "<init>", "()V"⟩ ∈ y_tb := y_in (mt_1 _ (List.mem_of_getElem? (i := 26) rfl)) rfl
theorem w_112 : Cond.instanceMethod ⟨"java/lang/Object", "<init>", "()V"⟩ ∈ y_tb := y_in (mt_1 _ (List.mem_of_getElem? (i := 27) rfl)) rfl
theorem w_114 : Cond.classLink RX10 9 RX9 ∈ y_tb := y_in (mt_1 _ (List.mem_of_getElem? (i := 29) rfl)) rfl
theorem w_115 : Cond.instantiable RX9 10 ∈ y_tb := y_in (mt_1 _ (List.mem_of_getElem? (i := 30) rfl)) rfl
theorem w_116 : Cond.methodLinkNest RX10 11 yX9_init "FilledHoles" ∈ y_nw := y_inN (mt_1 _ (List.mem_of_getElem? (i := 31) rfl)) rfl
theorem w_117 : Cond.instanceMethod yX9_init ∈ y_tb := y_in (mt_1 _ (List.mem_of_getElem? (i := 32) rfl)) rfl
theorem w_118 : Cond.code yX9_init cX9_init 1 none ∈ y_tb := y_in (mt_1 _ (List.mem_of_getElem? (i := 33) rfl)) rfl
theorem w_119 : Cond.methodLink RX9 3 ⟨"java/lang/Object", "<init>", "()V"⟩ ∈ y_tb := y_in (mt_1 _ (List.mem_of_getElem? (i := 34) rfl)) rfl
theorem w_120 : Cond.fieldLink RX9 11 "FilledHoles$Tape" "bytes" "[I" ∈ y_tb := y_in (mt_1 _ (List.mem_of_getElem? (i := 35) rfl)) rfl
theorem w_121 : Cond.fieldLink RX9 15 "FilledHoles$Tape" "length" "I" ∈ y_tb := y_in (mt_1 _ (List.mem_of_getElem? (i := 36) rfl)) rfl
theorem w_122 : Cond.fieldLinkNest RX10 107 "FilledHoles$Tape" "length" "I" "FilledHoles" ∈ y_nw := y_inN (mt_1 _ (List.mem_of_getElem? (i := 37) rfl)) rfl
theorem w_123 : Cond.fieldLink RX9 19 "FilledHoles$Tape" "tones" "[I" ∈ y_tb := y_in (mt_1 _ (List.mem_of_getElem? (i := 38) rfl)) rfl
theorem w_124 : Cond.fieldLinkNest RX10 126 "FilledHoles$Tape" "tones" "[I" "FilledHoles" ∈ y_nw := y_inN (mt_1 _ (List.mem_of_getElem? (i := 39) rfl)) rfl
theorem w_125 : Cond.fieldLink RX9 22 "FilledHoles$Tape" "width" "I" ∈ y_tb := y_in (mt_1 _ (List.mem_of_getElem? (i := 40) rfl)) rfl
theorem w_126 : Cond.fieldLinkNest RX10 118 "FilledHoles$Tape" "width" "I" "FilledHoles" ∈ y_nw := y_inN (mt_1 _ (List.mem_of_getElem? (i := 41) rfl)) rfl
theorem w_127 : Cond.fieldLink RX9 25 "FilledHoles$Tape" "height" "I" ∈ y_tb := y_in (mt_1 _ (List.mem_of_getElem? (i := 42) rfl)) rfl
theorem w_128 : Cond.fieldLinkNest RX10 122 "FilledHoles$Tape" "height" "I" "FilledHoles" ∈ y_nw := y_inN (mt_1 _ (List.mem_of_getElem? (i := 43) rfl)) rfl
theorem w_129 : Cond.fieldLink RX9 28 "FilledHoles$Tape" "faultPlace" "I" ∈ y_tb := y_in (mt_1 _ (List.mem_of_getElem? (i := 44) rfl)) rfl
theorem w_130 : Cond.fieldLinkNest RX10 142 "FilledHoles$Tape" "faultPlace" "I" "FilledHoles" ∈ y_nw := y_inN (mt_1 _ (List.mem_of_getElem? (i := 45) rfl)) rfl
theorem w_131 : Cond.fieldLink RX9 31 "FilledHoles$Tape" "end" "I" ∈ y_tb := y_in (mt_1 _ (List.mem_of_getElem? (i := 46) rfl)) rfl
theorem w_132 : Cond.fieldLink RX9 34 "FilledHoles$Tape" "place" "I" ∈ y_tb := y_in (mt_1 _ (List.mem_of_getElem? (i := 47) rfl)) rfl
theorem w_133 : Cond.fieldLink RX9 37 "FilledHoles$Tape" "fault" "I" ∈ y_tb := y_in (mt_1 _ (List.mem_of_getElem? (i := 48) rfl)) rfl
theorem w_134 : Cond.fieldLink RX9 40 "FilledHoles$Tape" "dotsRead" "I" ∈ y_tb := y_in (mt_1 _ (List.mem_of_getElem? (i := 49) rfl)) rfl
theorem w_157 : Cond.classLink RX10 16 RX7 ∈ y_tb := y_in (mt_1 _ (List.mem_of_getElem? (i := 72) rfl)) rfl
theorem w_158 : Cond.instantiable RX7 7 ∈ y_tb := y_in (mt_1 _ (List.mem_of_getElem? (i := 73) rfl)) rfl
theorem w_159 : Cond.methodLinkNest RX10 18 yX7_init "FilledHoles" ∈ y_nw := y_inN (mt_1 _ (List.mem_of_getElem? (i := 74) rfl)) rfl
theorem w_160 : Cond.instanceMethod yX7_init ∈ y_tb := y_in (mt_1 _ (List.mem_of_getElem? (i := 75) rfl)) rfl
theorem w_161 : Cond.code yX7_init cX7_init 1 none ∈ y_tb := y_in (mt_1 _ (List.mem_of_getElem? (i := 76) rfl)) rfl
theorem w_162 : Cond.methodLink RX7 3 ⟨"java/lang/Object", "<init>", "()V"⟩ ∈ y_tb := y_in (mt_1 _ (List.mem_of_getElem? (i := 77) rfl)) rfl
theorem w_163 : Cond.fieldLink RX7 9 "FilledHoles$Settings" "size" "I" ∈ y_tb := y_in (mt_1 _ (List.mem_of_getElem? (i := 78) rfl)) rfl
theorem w_164 : Cond.fieldLinkNest RX5 43 "FilledHoles$Settings" "size" "I" "FilledHoles" ∈ y_nw := y_inN (mt_1 _ (List.mem_of_getElem? (i := 79) rfl)) rfl
theorem w_165 : Cond.fieldLinkNest RX6 105 "FilledHoles$Settings" "size" "I" "FilledHoles" ∈ y_nw := y_inN (mt_1 _ (List.mem_of_getElem? (i := 80) rfl)) rfl
theorem w_166 : Cond.fieldLinkNest RX0 113 "FilledHoles$Settings" "size" "I" "FilledHoles" ∈ y_nw := y_inN (mt_1 _ (List.mem_of_getElem? (i := 81) rfl)) rfl
theorem w_167 : Cond.fieldLinkNest RX10 208 "FilledHoles$Settings" "size" "I" "FilledHoles" ∈ y_nw := y_inN (mt_1 _ (List.mem_of_getElem? (i := 82) rfl)) rfl
theorem w_168 : Cond.fieldLink RX7 15 "FilledHoles$Settings" "reach" "I" ∈ y_tb := y_in (mt_1 _ (List.mem_of_getElem? (i := 83) rfl)) rfl
theorem w_169 : Cond.fieldLinkNest RX6 140 "FilledHoles$Settings" "reach" "I" "FilledHoles" ∈ y_nw := y_inN (mt_1 _ (List.mem_of_getElem? (i := 84) rfl)) rfl
theorem w_170 : Cond.fieldLinkNest RX10 211 "FilledHoles$Settings" "reach" "I" "FilledHoles" ∈ y_nw := y_inN (mt_1 _ (List.mem_of_getElem? (i := 85) rfl)) rfl
theorem w_171 : Cond.fieldLink RX7 18 "FilledHoles$Settings" "from" "I" ∈ y_tb := y_in (mt_1 _ (List.mem_of_getElem? (i := 86) rfl)) rfl
theorem w_172 : Cond.fieldLinkNest RX6 82 "FilledHoles$Settings" "from" "I" "FilledHoles" ∈ y_nw := y_inN (mt_1 _ (List.mem_of_getElem? (i := 87) rfl)) rfl
theorem w_173 : Cond.fieldLinkNest RX10 214 "FilledHoles$Settings" "from" "I" "FilledHoles" ∈ y_nw := y_inN (mt_1 _ (List.mem_of_getElem? (i := 88) rfl)) rfl
theorem w_174 : Cond.fieldLink RX7 21 "FilledHoles$Settings" "ranked" "I" ∈ y_tb := y_in (mt_1 _ (List.mem_of_getElem? (i := 89) rfl)) rfl
theorem w_175 : Cond.fieldLinkNest RX5 67 "FilledHoles$Settings" "ranked" "I" "FilledHoles" ∈ y_nw := y_inN (mt_1 _ (List.mem_of_getElem? (i := 90) rfl)) rfl
theorem w_176 : Cond.fieldLinkNest RX10 217 "FilledHoles$Settings" "ranked" "I" "FilledHoles" ∈ y_nw := y_inN (mt_1 _ (List.mem_of_getElem? (i := 91) rfl)) rfl
theorem w_177 : Cond.fieldLink RX7 24 "FilledHoles$Settings" "turns" "I" ∈ y_tb := y_in (mt_1 _ (List.mem_of_getElem? (i := 92) rfl)) rfl
theorem w_178 : Cond.fieldLinkNest RX6 159 "FilledHoles$Settings" "turns" "I" "FilledHoles" ∈ y_nw := y_inN (mt_1 _ (List.mem_of_getElem? (i := 93) rfl)) rfl
theorem w_179 : Cond.fieldLinkNest RX10 224 "FilledHoles$Settings" "turns" "I" "FilledHoles" ∈ y_nw := y_inN (mt_1 _ (List.mem_of_getElem? (i := 94) rfl)) rfl
theorem w_180 : Cond.fieldLink RX7 27 "FilledHoles$Settings" "weighed" "I" ∈ y_tb := y_in (mt_1 _ (List.mem_of_getElem? (i := 95) rfl)) rfl
theorem w_181 : Cond.fieldLinkNest RX6 108 "FilledHoles$Settings" "weighed" "I" "FilledHoles" ∈ y_nw := y_inN (mt_1 _ (List.mem_of_getElem? (i := 96) rfl)) rfl
theorem w_182 : Cond.fieldLinkNest RX10 227 "FilledHoles$Settings" "weighed" "I" "FilledHoles" ∈ y_nw := y_inN (mt_1 _ (List.mem_of_getElem? (i := 97) rfl)) rfl
theorem w_183 : Cond.fieldLink RX7 30 "FilledHoles$Settings" "shifted" "I" ∈ y_tb := y_in (mt_1 _ (List.mem_of_getElem? (i := 98) rfl)) rfl
theorem w_184 : Cond.fieldLinkNest RX6 182 "FilledHoles$Settings" "shifted" "I" "FilledHoles" ∈ y_nw := y_inN (mt_1 _ (List.mem_of_getElem? (i := 99) rfl)) rfl
theorem w_185 : Cond.fieldLinkNest RX10 230 "FilledHoles$Settings" "shifted" "I" "FilledHoles" ∈ y_nw := y_inN (mt_1 _ (List.mem_of_getElem? (i := 100) rfl)) rfl
theorem w_201 : Cond.classLink RX10 23 RX4 ∈ y_tb := y_in (mt_1 _ (List.mem_of_getElem? (i := 116) rfl)) rfl
theorem w_202 : Cond.instantiable RX4 7 ∈ y_tb := y_in (mt_1 _ (List.mem_of_getElem? (i := 117) rfl)) rfl
theorem w_203 : Cond.methodLink RX10 25 yX4_init ∈ y_tb := y_in (mt_1 _ (List.mem_of_getElem? (i := 118) rfl)) rfl
theorem w_204 : Cond.instanceMethod yX4_init ∈ y_tb := y_in (mt_1 _ (List.mem_of_getElem? (i := 119) rfl)) rfl
theorem w_205 : Cond.code yX4_init cX4_init 1 none ∈ y_tb := y_in (mt_1 _ (List.mem_of_getElem? (i := 120) rfl)) rfl
theorem w_206 : Cond.methodLink RX4 3 ⟨"java/lang/Object", "<init>", "()V"⟩ ∈ y_tb := y_in (mt_1 _ (List.mem_of_getElem? (i := 121) rfl)) rfl
theorem w_207 : Cond.methodLink RX4 34 ⟨"java/util/Arrays", "fill", "([II)V"⟩ ∈ y_tb := y_in (mt_1 _ (List.mem_of_getElem? (i := 122) rfl)) rfl
theorem w_208 : Cond.static ⟨"java/util/Arrays", "fill", "([II)V"⟩ ∈ y_tb := y_in (mt_1 _ (List.mem_of_getElem? (i := 123) rfl)) rfl
theorem w_210 : Cond.fieldLink RX4 9 "FilledHoles$Picture" "width" "I" ∈ y_tb := y_in (mt_1 _ (List.mem_of_getElem? (i := 125) rfl)) rfl
theorem w_211 : Cond.fieldLinkNest RX5 70 "FilledHoles$Picture" "width" "I" "FilledHoles" ∈ y_nw := y_inN (mt_1 _ (List.mem_of_getElem? (i := 126) rfl)) rfl
theorem w_212 : Cond.fieldLinkNest RX6 92 "FilledHoles$Picture" "width" "I" "FilledHoles" ∈ y_nw := y_inN (mt_1 _ (List.mem_of_getElem? (i := 127) rfl)) rfl
theorem w_213 : Cond.fieldLinkNest RX10 121 "FilledHoles$Picture" "width" "I" "FilledHoles" ∈ y_nw := y_inN (mt_1 _ (List.mem_of_getElem? (i := 128) rfl)) rfl
theorem w_214 : Cond.fieldLink RX4 15 "FilledHoles$Picture" "height" "I" ∈ y_tb := y_in (mt_1 _ (List.mem_of_getElem? (i := 129) rfl)) rfl
theorem w_215 : Cond.fieldLinkNest RX6 87 "FilledHoles$Picture" "height" "I" "FilledHoles" ∈ y_nw := y_inN (mt_1 _ (List.mem_of_getElem? (i := 130) rfl)) rfl
theorem w_216 : Cond.fieldLinkNest RX5 77 "FilledHoles$Picture" "height" "I" "FilledHoles" ∈ y_nw := y_inN (mt_1 _ (List.mem_of_getElem? (i := 131) rfl)) rfl
theorem w_217 : Cond.fieldLinkNest RX10 125 "FilledHoles$Picture" "height" "I" "FilledHoles" ∈ y_nw := y_inN (mt_1 _ (List.mem_of_getElem? (i := 132) rfl)) rfl
theorem w_218 : Cond.fieldLink RX4 18 "FilledHoles$Picture" "tones" "[I" ∈ y_tb := y_in (mt_1 _ (List.mem_of_getElem? (i := 133) rfl)) rfl
theorem w_219 : Cond.fieldLinkNest RX3 34 "FilledHoles$Picture" "tones" "[I" "FilledHoles" ∈ y_nw := y_inN (mt_1 _ (List.mem_of_getElem? (i := 134) rfl)) rfl
theorem w_220 : Cond.fieldLinkNest RX6 99 "FilledHoles$Picture" "tones" "[I" "FilledHoles" ∈ y_nw := y_inN (mt_1 _ (List.mem_of_getElem? (i := 135) rfl)) rfl
theorem w_221 : Cond.fieldLinkNest RX5 86 "FilledHoles$Picture" "tones" "[I" "FilledHoles" ∈ y_nw := y_inN (mt_1 _ (List.mem_of_getElem? (i := 136) rfl)) rfl
theorem w_222 : Cond.fieldLinkNest RX0 135 "FilledHoles$Picture" "tones" "[I" "FilledHoles" ∈ y_nw := y_inN (mt_1 _ (List.mem_of_getElem? (i := 137) rfl)) rfl
theorem w_223 : Cond.fieldLinkNest RX10 176 "FilledHoles$Picture" "tones" "[I" "FilledHoles" ∈ y_nw := y_inN (mt_1 _ (List.mem_of_getElem? (i := 138) rfl)) rfl
theorem w_224 : Cond.fieldLink RX4 22 "FilledHoles$Picture" "sures" "[I" ∈ y_tb := y_in (mt_1 _ (List.mem_of_getElem? (i := 139) rfl)) rfl
theorem w_225 : Cond.fieldLinkNest RX5 83 "FilledHoles$Picture" "sures" "[I" "FilledHoles" ∈ y_nw := y_inN (mt_1 _ (List.mem_of_getElem? (i := 140) rfl)) rfl
theorem w_226 : Cond.fieldLinkNest RX6 115 "FilledHoles$Picture" "sures" "[I" "FilledHoles" ∈ y_nw := y_inN (mt_1 _ (List.mem_of_getElem? (i := 141) rfl)) rfl
theorem w_227 : Cond.fieldLinkNest RX10 233 "FilledHoles$Picture" "sures" "[I" "FilledHoles" ∈ y_nw := y_inN (mt_1 _ (List.mem_of_getElem? (i := 142) rfl)) rfl
theorem w_228 : Cond.fieldLink RX4 25 "FilledHoles$Picture" "filledBy" "[I" ∈ y_tb := y_in (mt_1 _ (List.mem_of_getElem? (i := 143) rfl)) rfl
theorem w_229 : Cond.fieldLinkNest RX6 102 "FilledHoles$Picture" "filledBy" "[I" "FilledHoles" ∈ y_nw := y_inN (mt_1 _ (List.mem_of_getElem? (i := 144) rfl)) rfl
theorem w_230 : Cond.fieldLinkNest RX10 236 "FilledHoles$Picture" "filledBy" "[I" "FilledHoles" ∈ y_nw := y_inN (mt_1 _ (List.mem_of_getElem? (i := 145) rfl)) rfl
theorem w_231 : Cond.fieldLink RX4 28 "FilledHoles$Picture" "parents" "[I" ∈ y_tb := y_in (mt_1 _ (List.mem_of_getElem? (i := 146) rfl)) rfl
theorem w_232 : Cond.fieldLinkNest RX6 150 "FilledHoles$Picture" "parents" "[I" "FilledHoles" ∈ y_nw := y_inN (mt_1 _ (List.mem_of_getElem? (i := 147) rfl)) rfl
theorem w_233 : Cond.fieldLinkNest RX10 239 "FilledHoles$Picture" "parents" "[I" "FilledHoles" ∈ y_nw := y_inN (mt_1 _ (List.mem_of_getElem? (i := 148) rfl)) rfl
theorem w_234 : Cond.fieldLink RX4 31 "FilledHoles$Picture" "origins" "[I" ∈ y_tb := y_in (mt_1 _ (List.mem_of_getElem? (i := 149) rfl)) rfl
theorem w_235 : Cond.fieldLinkNest RX10 248 "FilledHoles$Picture" "origins" "[I" "FilledHoles" ∈ y_nw := y_inN (mt_1 _ (List.mem_of_getElem? (i := 150) rfl)) rfl
theorem w_251 : Cond.classLink RX10 30 RX2 ∈ y_tb := y_in (mt_1 _ (List.mem_of_getElem? (i := 166) rfl)) rfl
theorem w_252 : Cond.instantiable RX2 3 ∈ y_tb := y_in (mt_1 _ (List.mem_of_getElem? (i := 167) rfl)) rfl
theorem w_253 : Cond.methodLinkNest RX10 32 yX2_init "FilledHoles" ∈ y_nw := y_inN (mt_1 _ (List.mem_of_getElem? (i := 168) rfl)) rfl
theorem w_254 : Cond.instanceMethod yX2_init ∈ y_tb := y_in (mt_1 _ (List.mem_of_getElem? (i := 169) rfl)) rfl
theorem w_255 : Cond.code yX2_init cX2_init 1 none ∈ y_tb := y_in (mt_1 _ (List.mem_of_getElem? (i := 170) rfl)) rfl
theorem w_256 : Cond.methodLink RX2 3 ⟨"java/lang/Object", "<init>", "()V"⟩ ∈ y_tb := y_in (mt_1 _ (List.mem_of_getElem? (i := 171) rfl)) rfl
theorem w_257 : Cond.fieldLink RX2 9 "FilledHoles$Journal" "fills" "I" ∈ y_tb := y_in (mt_1 _ (List.mem_of_getElem? (i := 172) rfl)) rfl
theorem w_258 : Cond.fieldLinkNest RX0 99 "FilledHoles$Journal" "fills" "I" "FilledHoles" ∈ y_nw := y_inN (mt_1 _ (List.mem_of_getElem? (i := 173) rfl)) rfl
theorem w_259 : Cond.fieldLinkNest RX10 202 "FilledHoles$Journal" "fills" "I" "FilledHoles" ∈ y_nw := y_inN (mt_1 _ (List.mem_of_getElem? (i := 174) rfl)) rfl
theorem w_260 : Cond.fieldLink RX2 15 "FilledHoles$Journal" "differences" "J" ∈ y_tb := y_in (mt_1 _ (List.mem_of_getElem? (i := 175) rfl)) rfl
theorem w_261 : Cond.fieldLinkNest RX10 220 "FilledHoles$Journal" "differences" "J" "FilledHoles" ∈ y_nw := y_inN (mt_1 _ (List.mem_of_getElem? (i := 176) rfl)) rfl
theorem w_262 : Cond.fieldLink RX2 19 "FilledHoles$Journal" "rows" "[I" ∈ y_tb := y_in (mt_1 _ (List.mem_of_getElem? (i := 177) rfl)) rfl
theorem w_270 : Cond.classLink RX10 37 RX1 ∈ y_tb := y_in (mt_1 _ (List.mem_of_getElem? (i := 185) rfl)) rfl
theorem w_271 : Cond.instantiable RX1 3 ∈ y_tb := y_in (mt_1 _ (List.mem_of_getElem? (i := 186) rfl)) rfl
theorem w_272 : Cond.methodLink RX10 39 yX1_init ∈ y_tb := y_in (mt_1 _ (List.mem_of_getElem? (i := 187) rfl)) rfl
theorem w_273 : Cond.instanceMethod yX1_init ∈ y_tb := y_in (mt_1 _ (List.mem_of_getElem? (i := 188) rfl)) rfl
theorem w_274 : Cond.code yX1_init cX1_init 2 none ∈ y_tb := y_in (mt_1 _ (List.mem_of_getElem? (i := 189) rfl)) rfl
theorem w_275 : Cond.methodLink RX1 1 ⟨"java/lang/Object", "<init>", "()V"⟩ ∈ y_tb := y_in (mt_1 _ (List.mem_of_getElem? (i := 190) rfl)) rfl
theorem w_276 : Cond.classLink RX1 9 RX8 ∈ y_tb := y_in (mt_1 _ (List.mem_of_getElem? (i := 191) rfl)) rfl
theorem w_278 : Cond.instantiable RX8 2 ∈ y_tb := y_in (mt_1 _ (List.mem_of_getElem? (i := 193) rfl)) rfl
theorem w_279 : Cond.methodLinkNest RX1 22 yX8_init "FilledHoles" ∈ y_nw := y_inN (mt_1 _ (List.mem_of_getElem? (i := 194) rfl)) rfl
theorem w_280 : Cond.instanceMethod yX8_init ∈ y_tb := y_in (mt_1 _ (List.mem_of_getElem? (i := 195) rfl)) rfl
theorem w_281 : Cond.code yX8_init cX8_init 1 none ∈ y_tb := y_in (mt_1 _ (List.mem_of_getElem? (i := 196) rfl)) rfl
theorem w_282 : Cond.methodLink RX8 1 ⟨"java/lang/Object", "<init>", "()V"⟩ ∈ y_tb := y_in (mt_1 _ (List.mem_of_getElem? (i := 197) rfl)) rfl
theorem w_283 : Cond.classLink RX8 7 RX4 ∈ y_tb := y_in (mt_1 _ (List.mem_of_getElem? (i := 198) rfl)) rfl
theorem w_284 : Cond.methodLink RX8 9 yX4_init ∈ y_tb := y_in (mt_1 _ (List.mem_of_getElem? (i := 199) rfl)) rfl
theorem w_285 : Cond.classLink RX8 16 RX2 ∈ y_tb := y_in (mt_1 _ (List.mem_of_getElem? (i := 200) rfl)) rfl
theorem w_286 : Cond.methodLinkNest RX8 18 yX2_init "FilledHoles" ∈ y_nw := y_inN (mt_1 _ (List.mem_of_getElem? (i := 201) rfl)) rfl
theorem w_287 : Cond.fieldLink RX8 10 "FilledHoles$Snapshot" "picture" "LFilledHoles$Picture;" ∈ y_tb := y_in (mt_1 _ (List.mem_of_getElem? (i := 202) rfl)) rfl
theorem w_288 : Cond.fieldLinkNest RX1 23 "FilledHoles$Snapshot" "picture" "LFilledHoles$Picture;" "FilledHoles" ∈ y_nw := y_inN (mt_1 _ (List.mem_of_getElem? (i := 203) rfl)) rfl
theorem w_289 : Cond.fieldLink RX8 19 "FilledHoles$Snapshot" "journal" "LFilledHoles$Journal;" ∈ y_tb := y_in (mt_1 _ (List.mem_of_getElem? (i := 204) rfl)) rfl
theorem w_290 : Cond.fieldLinkNest RX1 33 "FilledHoles$Snapshot" "journal" "LFilledHoles$Journal;" "FilledHoles" ∈ y_nw := y_inN (mt_1 _ (List.mem_of_getElem? (i := 205) rfl)) rfl
theorem w_296 : Cond.fieldLink RX1 11 "FilledHoles$History" "ring" "[LFilledHoles$Snapshot;" ∈ y_tb := y_in (mt_1 _ (List.mem_of_getElem? (i := 211) rfl)) rfl
theorem w_297 : Cond.fieldLink RX1 15 "FilledHoles$History" "head" "I" ∈ y_tb := y_in (mt_1 _ (List.mem_of_getElem? (i := 212) rfl)) rfl
theorem w_298 : Cond.fieldLink RX1 19 "FilledHoles$History" "depth" "I" ∈ y_tb := y_in (mt_1 _ (List.mem_of_getElem? (i := 213) rfl)) rfl
theorem w_299 : Cond.fieldLinkNest RX10 205 "FilledHoles$History" "depth" "I" "FilledHoles" ∈ y_nw := y_inN (mt_1 _ (List.mem_of_getElem? (i := 214) rfl)) rfl
theorem w_307 : Cond.classLink RX10 51 RX5 ∈ y_tb := y_in (mt_1 _ (List.mem_of_getElem? (i := 222) rfl)) rfl
theorem w_308 : Cond.instantiable RX5 10 ∈ y_tb := y_in (mt_1 _ (List.mem_of_getElem? (i := 223) rfl)) rfl
theorem w_309 : Cond.methodLinkNest RX10 53 yX5_init "FilledHoles" ∈ y_nw := y_inN (mt_1 _ (List.mem_of_getElem? (i := 224) rfl)) rfl
theorem w_310 : Cond.instanceMethod yX5_init ∈ y_tb := y_in (mt_1 _ (List.mem_of_getElem? (i := 225) rfl)) rfl
theorem w_311 : Cond.code yX5_init cX5_init 1 none ∈ y_tb := y_in (mt_1 _ (List.mem_of_getElem? (i := 226) rfl)) rfl
theorem w_312 : Cond.methodLink RX5 3 ⟨"java/lang/Object", "<init>", "()V"⟩ ∈ y_tb := y_in (mt_1 _ (List.mem_of_getElem? (i := 227) rfl)) rfl
theorem w_313 : Cond.fieldLink RX5 9 "FilledHoles$Ranker" "steady" "I" ∈ y_tb := y_in (mt_1 _ (List.mem_of_getElem? (i := 228) rfl)) rfl
theorem w_314 : Cond.fieldLinkNest RX0 106 "FilledHoles$Ranker" "steady" "I" "FilledHoles" ∈ y_nw := y_inN (mt_1 _ (List.mem_of_getElem? (i := 229) rfl)) rfl
theorem w_315 : Cond.fieldLinkNest RX10 264 "FilledHoles$Ranker" "steady" "I" "FilledHoles" ∈ y_nw := y_inN (mt_1 _ (List.mem_of_getElem? (i := 230) rfl)) rfl
theorem w_316 : Cond.fieldLink RX5 15 "FilledHoles$Ranker" "gx" "I" ∈ y_tb := y_in (mt_1 _ (List.mem_of_getElem? (i := 231) rfl)) rfl
theorem w_317 : Cond.fieldLinkNest RX10 267 "FilledHoles$Ranker" "gx" "I" "FilledHoles" ∈ y_nw := y_inN (mt_1 _ (List.mem_of_getElem? (i := 232) rfl)) rfl
theorem w_318 : Cond.fieldLink RX5 18 "FilledHoles$Ranker" "gy" "I" ∈ y_tb := y_in (mt_1 _ (List.mem_of_getElem? (i := 233) rfl)) rfl
theorem w_319 : Cond.fieldLinkNest RX10 270 "FilledHoles$Ranker" "gy" "I" "FilledHoles" ∈ y_nw := y_inN (mt_1 _ (List.mem_of_getElem? (i := 234) rfl)) rfl
theorem w_320 : Cond.fieldLink RX5 21 "FilledHoles$Ranker" "nx" "I" ∈ y_tb := y_in (mt_1 _ (List.mem_of_getElem? (i := 235) rfl)) rfl
theorem w_321 : Cond.fieldLinkNest RX10 273 "FilledHoles$Ranker" "nx" "I" "FilledHoles" ∈ y_nw := y_inN (mt_1 _ (List.mem_of_getElem? (i := 236) rfl)) rfl
theorem w_322 : Cond.fieldLink RX5 24 "FilledHoles$Ranker" "ny" "I" ∈ y_tb := y_in (mt_1 _ (List.mem_of_getElem? (i := 237) rfl)) rfl
theorem w_323 : Cond.fieldLinkNest RX10 276 "FilledHoles$Ranker" "ny" "I" "FilledHoles" ∈ y_nw := y_inN (mt_1 _ (List.mem_of_getElem? (i := 238) rfl)) rfl
theorem w_324 : Cond.fieldLink RX5 27 "FilledHoles$Ranker" "flow" "I" ∈ y_tb := y_in (mt_1 _ (List.mem_of_getElem? (i := 239) rfl)) rfl
theorem w_325 : Cond.fieldLinkNest RX10 279 "FilledHoles$Ranker" "flow" "I" "FilledHoles" ∈ y_nw := y_inN (mt_2 _ (List.mem_of_getElem? (i := 0) rfl)) rfl
theorem w_326 : Cond.fieldLink RX5 30 "FilledHoles$Ranker" "standing" "I" ∈ y_tb := y_in (mt_2 _ (List.mem_of_getElem? (i := 1) rfl)) rfl
theorem w_327 : Cond.fieldLinkNest RX10 282 "FilledHoles$Ranker" "standing" "I" "FilledHoles" ∈ y_nw := y_inN (mt_2 _ (List.mem_of_getElem? (i := 2) rfl)) rfl
theorem w_328 : Cond.fieldLink RX5 33 "FilledHoles$Ranker" "frontDots" "[I" ∈ y_tb := y_in (mt_2 _ (List.mem_of_getElem? (i := 3) rfl)) rfl
theorem w_329 : Cond.fieldLinkNest RX0 69 "FilledHoles$Ranker" "frontDots" "[I" "FilledHoles" ∈ y_nw := y_inN (mt_2 _ (List.mem_of_getElem? (i := 4) rfl)) rfl
theorem w_330 : Cond.fieldLinkNest RX10 291 "FilledHoles$Ranker" "frontDots" "[I" "FilledHoles" ∈ y_nw := y_inN (mt_2 _ (List.mem_of_getElem? (i := 5) rfl)) rfl
theorem w_331 : Cond.fieldLink RX5 37 "FilledHoles$Ranker" "frontRanks" "[I" ∈ y_tb := y_in (mt_2 _ (List.mem_of_getElem? (i := 6) rfl)) rfl
theorem w_332 : Cond.fieldLinkNest RX10 433 "FilledHoles$Ranker" "frontRanks" "[I" "FilledHoles" ∈ y_nw := y_inN (mt_2 _ (List.mem_of_getElem? (i := 7) rfl)) rfl
theorem w_333 : Cond.fieldLink RX5 40 "FilledHoles$Ranker" "frontCount" "I" ∈ y_tb := y_in (mt_2 _ (List.mem_of_getElem? (i := 8) rfl)) rfl
theorem w_355 : Cond.classLink RX10 58 RX6 ∈ y_tb := y_in (mt_2 _ (List.mem_of_getElem? (i := 30) rfl)) rfl
theorem w_356 : Cond.instantiable RX6 20 ∈ y_tb := y_in (mt_2 _ (List.mem_of_getElem? (i := 31) rfl)) rfl
theorem w_357 : Cond.methodLink RX10 60 yX6_init ∈ y_tb := y_in (mt_2 _ (List.mem_of_getElem? (i := 32) rfl)) rfl
theorem w_358 : Cond.instanceMethod yX6_init ∈ y_tb := y_in (mt_2 _ (List.mem_of_getElem? (i := 33) rfl)) rfl
theorem w_359 : Cond.code yX6_init cX6_init 3 none ∈ y_tb := y_in (mt_2 _ (List.mem_of_getElem? (i := 34) rfl)) rfl
theorem w_360 : Cond.methodLink RX6 3 ⟨"java/lang/Object", "<init>", "()V"⟩ ∈ y_tb := y_in (mt_2 _ (List.mem_of_getElem? (i := 35) rfl)) rfl
theorem w_361 : Cond.fieldLink RX6 68 "FilledHoles$Searcher" "picture" "LFilledHoles$Picture;" ∈ y_tb := y_in (mt_2 _ (List.mem_of_getElem? (i := 36) rfl)) rfl
theorem w_362 : Cond.fieldLink RX6 72 "FilledHoles$Searcher" "settings" "LFilledHoles$Settings;" ∈ y_tb := y_in (mt_2 _ (List.mem_of_getElem? (i := 37) rfl)) rfl
theorem w_363 : Cond.fieldLink RX6 9 "FilledHoles$Searcher" "aimX" "I" ∈ y_tb := y_in (mt_2 _ (List.mem_of_getElem? (i := 38) rfl)) rfl
theorem w_364 : Cond.fieldLinkNest RX2 29 "FilledHoles$Searcher" "aimX" "I" "FilledHoles" ∈ y_nw := y_inN (mt_2 _ (List.mem_of_getElem? (i := 39) rfl)) rfl
theorem w_365 : Cond.fieldLinkNest RX0 118 "FilledHoles$Searcher" "aimX" "I" "FilledHoles" ∈ y_nw := y_inN (mt_2 _ (List.mem_of_getElem? (i := 40) rfl)) rfl
theorem w_366 : Cond.fieldLink RX6 15 "FilledHoles$Searcher" "aimY" "I" ∈ y_tb := y_in (mt_2 _ (List.mem_of_getElem? (i := 41) rfl)) rfl
theorem w_367 : Cond.fieldLinkNest RX2 34 "FilledHoles$Searcher" "aimY" "I" "FilledHoles" ∈ y_nw := y_inN (mt_2 _ (List.mem_of_getElem? (i := 42) rfl)) rfl
theorem w_368 : Cond.fieldLinkNest RX0 121 "FilledHoles$Searcher" "aimY" "I" "FilledHoles" ∈ y_nw := y_inN (mt_2 _ (List.mem_of_getElem? (i := 43) rfl)) rfl
theorem w_369 : Cond.fieldLink RX6 18 "FilledHoles$Searcher" "knownTones" "[I" ∈ y_tb := y_in (mt_2 _ (List.mem_of_getElem? (i := 44) rfl)) rfl
theorem w_370 : Cond.fieldLink RX6 22 "FilledHoles$Searcher" "knownWeights" "[I" ∈ y_tb := y_in (mt_2 _ (List.mem_of_getElem? (i := 45) rfl)) rfl
theorem w_371 : Cond.fieldLink RX6 25 "FilledHoles$Searcher" "placeSteps" "[I" ∈ y_tb := y_in (mt_2 _ (List.mem_of_getElem? (i := 46) rfl)) rfl
theorem w_372 : Cond.fieldLink RX6 28 "FilledHoles$Searcher" "known" "I" ∈ y_tb := y_in (mt_2 _ (List.mem_of_getElem? (i := 47) rfl)) rfl
theorem w_373 : Cond.fieldLink RX6 31 "FilledHoles$Searcher" "weights" "I" ∈ y_tb := y_in (mt_2 _ (List.mem_of_getElem? (i := 48) rfl)) rfl
theorem w_374 : Cond.fieldLink RX6 34 "FilledHoles$Searcher" "unusableBefore" "[I" ∈ y_tb := y_in (mt_2 _ (List.mem_of_getElem? (i := 49) rfl)) rfl
theorem w_375 : Cond.fieldLink RX6 37 "FilledHoles$Searcher" "shift" "I" ∈ y_tb := y_in (mt_2 _ (List.mem_of_getElem? (i := 50) rfl)) rfl
theorem w_376 : Cond.fieldLink RX6 40 "FilledHoles$Searcher" "bound" "J" ∈ y_tb := y_in (mt_2 _ (List.mem_of_getElem? (i := 51) rfl)) rfl
theorem w_377 : Cond.fieldLinkNest RX10 336 "FilledHoles$Searcher" "bound" "J" "FilledHoles" ∈ y_nw := y_inN (mt_2 _ (List.mem_of_getElem? (i := 52) rfl)) rfl
theorem w_378 : Cond.fieldLink RX6 44 "FilledHoles$Searcher" "best" "I" ∈ y_tb := y_in (mt_2 _ (List.mem_of_getElem? (i := 53) rfl)) rfl
theorem w_379 : Cond.fieldLinkNest RX2 37 "FilledHoles$Searcher" "best" "I" "FilledHoles" ∈ y_nw := y_inN (mt_2 _ (List.mem_of_getElem? (i := 54) rfl)) rfl
theorem w_380 : Cond.fieldLinkNest RX0 92 "FilledHoles$Searcher" "best" "I" "FilledHoles" ∈ y_nw := y_inN (mt_2 _ (List.mem_of_getElem? (i := 55) rfl)) rfl
theorem w_381 : Cond.fieldLinkNest RX10 303 "FilledHoles$Searcher" "best" "I" "FilledHoles" ∈ y_nw := y_inN (mt_2 _ (List.mem_of_getElem? (i := 56) rfl)) rfl
theorem w_382 : Cond.fieldLink RX6 47 "FilledHoles$Searcher" "bestWay" "I" ∈ y_tb := y_in (mt_2 _ (List.mem_of_getElem? (i := 57) rfl)) rfl
theorem w_383 : Cond.fieldLinkNest RX2 52 "FilledHoles$Searcher" "bestWay" "I" "FilledHoles" ∈ y_nw := y_inN (mt_2 _ (List.mem_of_getElem? (i := 58) rfl)) rfl
theorem w_384 : Cond.fieldLinkNest RX0 128 "FilledHoles$Searcher" "bestWay" "I" "FilledHoles" ∈ y_nw := y_inN (mt_2 _ (List.mem_of_getElem? (i := 59) rfl)) rfl
theorem w_385 : Cond.fieldLinkNest RX10 309 "FilledHoles$Searcher" "bestWay" "I" "FilledHoles" ∈ y_nw := y_inN (mt_2 _ (List.mem_of_getElem? (i := 60) rfl)) rfl
theorem w_386 : Cond.fieldLink RX6 50 "FilledHoles$Searcher" "bestDifference" "I" ∈ y_tb := y_in (mt_2 _ (List.mem_of_getElem? (i := 61) rfl)) rfl
theorem w_387 : Cond.fieldLinkNest RX2 49 "FilledHoles$Searcher" "bestDifference" "I" "FilledHoles" ∈ y_nw := y_inN (mt_2 _ (List.mem_of_getElem? (i := 62) rfl)) rfl
theorem w_388 : Cond.fieldLinkNest RX10 306 "FilledHoles$Searcher" "bestDifference" "I" "FilledHoles" ∈ y_nw := y_inN (mt_2 _ (List.mem_of_getElem? (i := 63) rfl)) rfl
theorem w_389 : Cond.fieldLink RX6 53 "FilledHoles$Searcher" "bestShift" "I" ∈ y_tb := y_in (mt_2 _ (List.mem_of_getElem? (i := 64) rfl)) rfl
theorem w_390 : Cond.fieldLinkNest RX2 55 "FilledHoles$Searcher" "bestShift" "I" "FilledHoles" ∈ y_nw := y_inN (mt_2 _ (List.mem_of_getElem? (i := 65) rfl)) rfl
theorem w_391 : Cond.fieldLinkNest RX0 138 "FilledHoles$Searcher" "bestShift" "I" "FilledHoles" ∈ y_nw := y_inN (mt_2 _ (List.mem_of_getElem? (i := 66) rfl)) rfl
theorem w_392 : Cond.fieldLinkNest RX10 324 "FilledHoles$Searcher" "bestShift" "I" "FilledHoles" ∈ y_nw := y_inN (mt_2 _ (List.mem_of_getElem? (i := 67) rfl)) rfl
theorem w_393 : Cond.fieldLink RX6 56 "FilledHoles$Searcher" "asked" "I" ∈ y_tb := y_in (mt_2 _ (List.mem_of_getElem? (i := 68) rfl)) rfl
theorem w_394 : Cond.fieldLinkNest RX10 312 "FilledHoles$Searcher" "asked" "I" "FilledHoles" ∈ y_nw := y_inN (mt_2 _ (List.mem_of_getElem? (i := 69) rfl)) rfl
theorem w_395 : Cond.fieldLink RX6 59 "FilledHoles$Searcher" "skipped" "I" ∈ y_tb := y_in (mt_2 _ (List.mem_of_getElem? (i := 70) rfl)) rfl
theorem w_396 : Cond.fieldLinkNest RX10 315 "FilledHoles$Searcher" "skipped" "I" "FilledHoles" ∈ y_nw := y_inN (mt_2 _ (List.mem_of_getElem? (i := 71) rfl)) rfl
theorem w_397 : Cond.fieldLink RX6 62 "FilledHoles$Searcher" "stopped" "I" ∈ y_tb := y_in (mt_2 _ (List.mem_of_getElem? (i := 72) rfl)) rfl
theorem w_398 : Cond.fieldLinkNest RX10 318 "FilledHoles$Searcher" "stopped" "I" "FilledHoles" ∈ y_nw := y_inN (mt_2 _ (List.mem_of_getElem? (i := 73) rfl)) rfl
theorem w_399 : Cond.fieldLink RX6 65 "FilledHoles$Searcher" "looked" "I" ∈ y_tb := y_in (mt_2 _ (List.mem_of_getElem? (i := 74) rfl)) rfl
theorem w_400 : Cond.fieldLinkNest RX10 321 "FilledHoles$Searcher" "looked" "I" "FilledHoles" ∈ y_nw := y_inN (mt_2 _ (List.mem_of_getElem? (i := 75) rfl)) rfl
theorem w_442 : Cond.classLink RX10 67 RX3 ∈ y_tb := y_in (mt_2 _ (List.mem_of_getElem? (i := 117) rfl)) rfl
theorem w_443 : Cond.instantiable RX3 3 ∈ y_tb := y_in (mt_2 _ (List.mem_of_getElem? (i := 118) rfl)) rfl
theorem w_444 : Cond.methodLinkNest RX10 69 yX3_init "FilledHoles" ∈ y_nw := y_inN (mt_2 _ (List.mem_of_getElem? (i := 119) rfl)) rfl
theorem w_445 : Cond.instanceMethod yX3_init ∈ y_tb := y_in (mt_2 _ (List.mem_of_getElem? (i := 120) rfl)) rfl
theorem w_446 : Cond.code yX3_init cX3_init 1 none ∈ y_tb := y_in (mt_2 _ (List.mem_of_getElem? (i := 121) rfl)) rfl
theorem w_447 : Cond.methodLink RX3 3 ⟨"java/lang/Object", "<init>", "()V"⟩ ∈ y_tb := y_in (mt_2 _ (List.mem_of_getElem? (i := 122) rfl)) rfl
theorem w_448 : Cond.fieldLink RX3 9 "FilledHoles$Parts" "labels" "[I" ∈ y_tb := y_in (mt_2 _ (List.mem_of_getElem? (i := 123) rfl)) rfl
theorem w_449 : Cond.fieldLinkNest RX10 251 "FilledHoles$Parts" "labels" "[I" "FilledHoles" ∈ y_nw := y_inN (mt_2 _ (List.mem_of_getElem? (i := 124) rfl)) rfl
theorem w_450 : Cond.fieldLink RX3 15 "FilledHoles$Parts" "queue" "[I" ∈ y_tb := y_in (mt_2 _ (List.mem_of_getElem? (i := 125) rfl)) rfl
theorem w_451 : Cond.fieldLink RX3 18 "FilledHoles$Parts" "queued" "I" ∈ y_tb := y_in (mt_2 _ (List.mem_of_getElem? (i := 126) rfl)) rfl
theorem w_459 : Cond.classLink RX10 74 RX0 ∈ y_tb := y_in (mt_2 _ (List.mem_of_getElem? (i := 134) rfl)) rfl
theorem w_460 : Cond.instantiable RX0 5 ∈ y_tb := y_in (mt_2 _ (List.mem_of_getElem? (i := 135) rfl)) rfl
theorem w_461 : Cond.methodLink RX10 76 yX0_init ∈ y_tb := y_in (mt_2 _ (List.mem_of_getElem? (i := 136) rfl)) rfl
theorem w_462 : Cond.instanceMethod yX0_init ∈ y_tb := y_in (mt_2 _ (List.mem_of_getElem? (i := 137) rfl)) rfl
theorem w_463 : Cond.code yX0_init cX0_init 3 none ∈ y_tb := y_in (mt_2 _ (List.mem_of_getElem? (i := 138) rfl)) rfl
theorem w_464 : Cond.methodLink RX0 3 ⟨"java/lang/Object", "<init>", "()V"⟩ ∈ y_tb := y_in (mt_2 _ (List.mem_of_getElem? (i := 139) rfl)) rfl
theorem w_465 : Cond.classLink RX0 9 RX4 ∈ y_tb := y_in (mt_2 _ (List.mem_of_getElem? (i := 140) rfl)) rfl
theorem w_466 : Cond.methodLink RX0 11 yX4_init ∈ y_tb := y_in (mt_2 _ (List.mem_of_getElem? (i := 141) rfl)) rfl
theorem w_467 : Cond.classLink RX0 21 RX2 ∈ y_tb := y_in (mt_2 _ (List.mem_of_getElem? (i := 142) rfl)) rfl
theorem w_468 : Cond.methodLinkNest RX0 23 yX2_init "FilledHoles" ∈ y_nw := y_inN (mt_2 _ (List.mem_of_getElem? (i := 143) rfl)) rfl
theorem w_469 : Cond.fieldLink RX0 28 "FilledHoles$Filler" "ranker" "LFilledHoles$Ranker;" ∈ y_tb := y_in (mt_2 _ (List.mem_of_getElem? (i := 144) rfl)) rfl
theorem w_470 : Cond.fieldLink RX0 32 "FilledHoles$Filler" "searcher" "LFilledHoles$Searcher;" ∈ y_tb := y_in (mt_2 _ (List.mem_of_getElem? (i := 145) rfl)) rfl
theorem w_471 : Cond.fieldLink RX0 12 "FilledHoles$Filler" "coarse" "LFilledHoles$Picture;" ∈ y_tb := y_in (mt_2 _ (List.mem_of_getElem? (i := 146) rfl)) rfl
theorem w_472 : Cond.fieldLinkNest RX10 375 "FilledHoles$Filler" "coarse" "LFilledHoles$Picture;" "FilledHoles" ∈ y_nw := y_inN (mt_2 _ (List.mem_of_getElem? (i := 147) rfl)) rfl
theorem w_473 : Cond.fieldLink RX0 18 "FilledHoles$Filler" "coarser" "LFilledHoles$Picture;" ∈ y_tb := y_in (mt_2 _ (List.mem_of_getElem? (i := 148) rfl)) rfl
theorem w_474 : Cond.fieldLinkNest RX10 378 "FilledHoles$Filler" "coarser" "LFilledHoles$Picture;" "FilledHoles" ∈ y_nw := y_inN (mt_2 _ (List.mem_of_getElem? (i := 149) rfl)) rfl
theorem w_475 : Cond.fieldLink RX0 24 "FilledHoles$Filler" "coarseJournal" "LFilledHoles$Journal;" ∈ y_tb := y_in (mt_2 _ (List.mem_of_getElem? (i := 150) rfl)) rfl
theorem w_487 : Cond.fieldLink RX10 12 "FilledHoles" "tape" "LFilledHoles$Tape;" ∈ y_tb := y_in (mt_2 _ (List.mem_of_getElem? (i := 162) rfl)) rfl
theorem w_488 : Cond.fieldLink RX10 19 "FilledHoles" "settings" "LFilledHoles$Settings;" ∈ y_tb := y_in (mt_2 _ (List.mem_of_getElem? (i := 163) rfl)) rfl
theorem w_489 : Cond.fieldLink RX10 26 "FilledHoles" "picture" "LFilledHoles$Picture;" ∈ y_tb := y_in (mt_2 _ (List.mem_of_getElem? (i := 164) rfl)) rfl
theorem w_490 : Cond.fieldLink RX10 33 "FilledHoles" "journal" "LFilledHoles$Journal;" ∈ y_tb := y_in (mt_2 _ (List.mem_of_getElem? (i := 165) rfl)) rfl
theorem w_491 : Cond.fieldLink RX10 40 "FilledHoles" "history" "LFilledHoles$History;" ∈ y_tb := y_in (mt_2 _ (List.mem_of_getElem? (i := 166) rfl)) rfl
theorem w_492 : Cond.fieldLink RX10 44 "FilledHoles" "truth" "LFilledHoles$Picture;" ∈ y_tb := y_in (mt_2 _ (List.mem_of_getElem? (i := 167) rfl)) rfl
theorem w_493 : Cond.fieldLink RX10 47 "FilledHoles" "hasTruth" "Z" ∈ y_tb := y_in (mt_2 _ (List.mem_of_getElem? (i := 168) rfl)) rfl
theorem w_494 : Cond.fieldLink RX10 54 "FilledHoles" "ranker" "LFilledHoles$Ranker;" ∈ y_tb := y_in (mt_2 _ (List.mem_of_getElem? (i := 169) rfl)) rfl
theorem w_495 : Cond.fieldLink RX10 63 "FilledHoles" "searcher" "LFilledHoles$Searcher;" ∈ y_tb := y_in (mt_2 _ (List.mem_of_getElem? (i := 170) rfl)) rfl
theorem w_496 : Cond.fieldLink RX10 70 "FilledHoles" "parts" "LFilledHoles$Parts;" ∈ y_tb := y_in (mt_2 _ (List.mem_of_getElem? (i := 171) rfl)) rfl
theorem w_497 : Cond.fieldLink RX10 79 "FilledHoles" "filler" "LFilledHoles$Filler;" ∈ y_tb := y_in (mt_2 _ (List.mem_of_getElem? (i := 172) rfl)) rfl
theorem w_498 : Cond.fieldLink RX10 83 "FilledHoles" "trialSettings" "LFilledHoles$Settings;" ∈ y_tb := y_in (mt_2 _ (List.mem_of_getElem? (i := 173) rfl)) rfl
theorem w_499 : Cond.fieldLink RX10 86 "FilledHoles" "trial" "LFilledHoles$Picture;" ∈ y_tb := y_in (mt_2 _ (List.mem_of_getElem? (i := 174) rfl)) rfl
theorem w_500 : Cond.fieldLink RX10 89 "FilledHoles" "trialJournal" "LFilledHoles$Journal;" ∈ y_tb := y_in (mt_2 _ (List.mem_of_getElem? (i := 175) rfl)) rfl
theorem w_501 : Cond.fieldLink RX10 92 "FilledHoles" "refusedNoSuch" "I" ∈ y_tb := y_in (mt_2 _ (List.mem_of_getElem? (i := 176) rfl)) rfl
theorem w_502 : Cond.fieldLink RX10 96 "FilledHoles" "refusedArgument" "I" ∈ y_tb := y_in (mt_2 _ (List.mem_of_getElem? (i := 177) rfl)) rfl
theorem w_536 : Cond.methodLink RL 97 yX10_feed ∈ y_tb := y_in (mt_2 _ (List.mem_of_getElem? (i := 211) rfl)) rfl
theorem w_537 : Cond.instanceMethod yX10_feed ∈ y_tb := y_in (mt_2 _ (List.mem_of_getElem? (i := 212) rfl)) rfl
theorem w_538 : Cond.selects RX10 yX10_feed yX10_feed ∈ y_tb := y_in (mt_2 _ (List.mem_of_getElem? (i := 213) rfl)) rfl
theorem w_539 : Cond.code yX10_feed cX10_feed 6 (some .int) ∈ y_tb := y_in (mt_2 _ (List.mem_of_getElem? (i := 214) rfl)) rfl
theorem w_540 : Cond.methodLink RX10 99 yX9_hasRoom ∈ y_tb := y_in (mt_2 _ (List.mem_of_getElem? (i := 215) rfl)) rfl
theorem w_541 : Cond.instanceMethod yX9_hasRoom ∈ y_tb := y_in (mt_2 _ (List.mem_of_getElem? (i := 216) rfl)) rfl
theorem w_542 : Cond.selects RX9 yX9_hasRoom yX9_hasRoom ∈ y_tb := y_in (mt_2 _ (List.mem_of_getElem? (i := 217) rfl)) rfl
theorem w_543 : Cond.code yX9_hasRoom cX9_hasRoom 1 (some .boolean) ∈ y_tb := y_in (mt_2 _ (List.mem_of_getElem? (i := 218) rfl)) rfl
theorem w_544 : Cond.methodLink RX10 103 yX9_append ∈ y_tb := y_in (mt_2 _ (List.mem_of_getElem? (i := 219) rfl)) rfl
theorem w_545 : Cond.instanceMethod yX9_append ∈ y_tb := y_in (mt_2 _ (List.mem_of_getElem? (i := 220) rfl)) rfl
theorem w_546 : Cond.selects RX9 yX9_append yX9_append ∈ y_tb := y_in (mt_2 _ (List.mem_of_getElem? (i := 221) rfl)) rfl
theorem w_547 : Cond.code yX9_append cX9_append 3 none ∈ y_tb := y_in (mt_2 _ (List.mem_of_getElem? (i := 222) rfl)) rfl
theorem w_548 : Cond.methodLink RL 111 yX10_fault ∈ y_tb := y_in (mt_2 _ (List.mem_of_getElem? (i := 223) rfl)) rfl
theorem w_549 : Cond.instanceMethod yX10_fault ∈ y_tb := y_in (mt_2 _ (List.mem_of_getElem? (i := 224) rfl)) rfl
theorem w_550 : Cond.selects RX10 yX10_fault yX10_fault ∈ y_tb := y_in (mt_2 _ (List.mem_of_getElem? (i := 225) rfl)) rfl
theorem w_551 : Cond.code yX10_fault cX10_fault 1 (some .int) ∈ y_tb := y_in (mt_2 _ (List.mem_of_getElem? (i := 226) rfl)) rfl
theorem w_552 : Cond.methodLink RL 127 yX10_keep ∈ y_tb := y_in (mt_2 _ (List.mem_of_getElem? (i := 227) rfl)) rfl
theorem w_553 : Cond.instanceMethod yX10_keep ∈ y_tb := y_in (mt_2 _ (List.mem_of_getElem? (i := 228) rfl)) rfl
theorem w_554 : Cond.selects RX10 yX10_keep yX10_keep ∈ y_tb := y_in (mt_2 _ (List.mem_of_getElem? (i := 229) rfl)) rfl
theorem w_555 : Cond.code yX10_keep cX10_keep 1 (some .int) ∈ y_tb := y_in (mt_2 _ (List.mem_of_getElem? (i := 230) rfl)) rfl
theorem w_556 : Cond.methodLink RX10 177 yX4_copyFrom ∈ y_tb := y_in (mt_2 _ (List.mem_of_getElem? (i := 231) rfl)) rfl
theorem w_557 : Cond.instanceMethod yX4_copyFrom ∈ y_tb := y_in (mt_2 _ (List.mem_of_getElem? (i := 232) rfl)) rfl
theorem w_558 : Cond.selects RX4 yX4_copyFrom yX4_copyFrom ∈ y_tb := y_in (mt_2 _ (List.mem_of_getElem? (i := 233) rfl)) rfl
theorem w_559 : Cond.code yX4_copyFrom cX4_copyFrom 3 none ∈ y_tb := y_in (mt_2 _ (List.mem_of_getElem? (i := 234) rfl)) rfl
theorem w_560 : Cond.methodLink RX4 50 yX4_dots ∈ y_tb := y_in (mt_2 _ (List.mem_of_getElem? (i := 235) rfl)) rfl
theorem w_561 : Cond.instanceMethod yX4_dots ∈ y_tb := y_in (mt_2 _ (List.mem_of_getElem? (i := 236) rfl)) rfl
theorem w_562 : Cond.selects RX4 yX4_dots yX4_dots ∈ y_tb := y_in (mt_2 _ (List.mem_of_getElem? (i := 237) rfl)) rfl
theorem w_563 : Cond.code yX4_dots cX4_dots 1 (some .int) ∈ y_tb := y_in (mt_2 _ (List.mem_of_getElem? (i := 238) rfl)) rfl
theorem w_564 : Cond.methodLink RX4 58 ⟨"java/lang/System", "arraycopy", "(Ljava/lang/Object;ILjava/lang/Object;II)V"⟩ ∈ y_tb := y_in (mt_2 _ (List.mem_of_getElem? (i := 239) rfl)) rfl
theorem w_565 : Cond.static ⟨"java/lang/System", "arraycopy", "(Ljava/lang/Object;ILjava/lang/Object;II)V"⟩ ∈ y_tb := y_in (mt_3 _ (List.mem_of_getElem? (i := 0) rfl)) rfl
theorem w_567 : Cond.methodLink RX10 181 yX4_dots ∈ y_tb := y_in (mt_3 _ (List.mem_of_getElem? (i := 2) rfl)) rfl
theorem w_568 : Cond.methodLink RX10 138 yX4_countMissing ∈ y_tb := y_in (mt_3 _ (List.mem_of_getElem? (i := 3) rfl)) rfl
theorem w_569 : Cond.instanceMethod yX4_countMissing ∈ y_tb := y_in (mt_3 _ (List.mem_of_getElem? (i := 4) rfl)) rfl
theorem w_570 : Cond.selects RX4 yX4_countMissing yX4_countMissing ∈ y_tb := y_in (mt_3 _ (List.mem_of_getElem? (i := 5) rfl)) rfl
theorem w_571 : Cond.code yX4_countMissing cX4_countMissing 3 (some .int) ∈ y_tb := y_in (mt_3 _ (List.mem_of_getElem? (i := 6) rfl)) rfl
theorem w_572 : Cond.methodLink RL 137 yX10_undo ∈ y_tb := y_in (mt_3 _ (List.mem_of_getElem? (i := 7) rfl)) rfl
theorem w_573 : Cond.instanceMethod yX10_undo ∈ y_tb := y_in (mt_3 _ (List.mem_of_getElem? (i := 8) rfl)) rfl
theorem w_574 : Cond.selects RX10 yX10_undo yX10_undo ∈ y_tb := y_in (mt_3 _ (List.mem_of_getElem? (i := 9) rfl)) rfl
theorem w_575 : Cond.code yX10_undo cX10_undo 1 (some .int) ∈ y_tb := y_in (mt_3 _ (List.mem_of_getElem? (i := 10) rfl)) rfl
theorem w_576 : Cond.methodLink RX10 188 yX1_takeBack ∈ y_tb := y_in (mt_3 _ (List.mem_of_getElem? (i := 11) rfl)) rfl
theorem w_577 : Cond.instanceMethod yX1_takeBack ∈ y_tb := y_in (mt_3 _ (List.mem_of_getElem? (i := 12) rfl)) rfl
theorem w_578 : Cond.selects RX1 yX1_takeBack yX1_takeBack ∈ y_tb := y_in (mt_3 _ (List.mem_of_getElem? (i := 13) rfl)) rfl
theorem w_579 : Cond.code yX1_takeBack cX1_takeBack 4 (some .boolean) ∈ y_tb := y_in (mt_3 _ (List.mem_of_getElem? (i := 14) rfl)) rfl
theorem w_580 : Cond.methodLink RX1 27 yX4_copyFrom ∈ y_tb := y_in (mt_3 _ (List.mem_of_getElem? (i := 15) rfl)) rfl
theorem w_581 : Cond.methodLink RX1 37 yX2_copyFrom ∈ y_tb := y_in (mt_3 _ (List.mem_of_getElem? (i := 16) rfl)) rfl
theorem w_582 : Cond.instanceMethod yX2_copyFrom ∈ y_tb := y_in (mt_3 _ (List.mem_of_getElem? (i := 17) rfl)) rfl
theorem w_583 : Cond.selects RX2 yX2_copyFrom yX2_copyFrom ∈ y_tb := y_in (mt_3 _ (List.mem_of_getElem? (i := 18) rfl)) rfl
theorem w_584 : Cond.code yX2_copyFrom cX2_copyFrom 2 none ∈ y_tb := y_in (mt_3 _ (List.mem_of_getElem? (i := 19) rfl)) rfl
theorem w_585 : Cond.methodLink RX2 65 ⟨"java/lang/System", "arraycopy", "(Ljava/lang/Object;ILjava/lang/Object;II)V"⟩ ∈ y_tb := y_in (mt_3 _ (List.mem_of_getElem? (i := 20) rfl)) rfl
theorem w_586 : Cond.methodLink RL 178 yX10_flaw ∈ y_tb := y_in (mt_3 _ (List.mem_of_getElem? (i := 21) rfl)) rfl
theorem w_587 : Cond.instanceMethod yX10_flaw ∈ y_tb := y_in (mt_3 _ (List.mem_of_getElem? (i := 22) rfl)) rfl
theorem w_588 : Cond.selects RX10 yX10_flaw yX10_flaw ∈ y_tb := y_in (mt_3 _ (List.mem_of_getElem? (i := 23) rfl)) rfl
theorem w_589 : Cond.code yX10_flaw cX10_flaw 1 (some .int) ∈ y_tb := y_in (mt_3 _ (List.mem_of_getElem? (i := 24) rfl)) rfl
theorem w_590 : Cond.methodLink RX10 387 yX10_flawOf ∈ y_tb := y_in (mt_3 _ (List.mem_of_getElem? (i := 25) rfl)) rfl
theorem w_592 : Cond.instanceMethod yX10_flawOf ∈ y_tb := y_in (mt_3 _ (List.mem_of_getElem? (i := 27) rfl)) rfl
theorem w_593 : Cond.code yX10_flawOf cX10_flawOf 5 (some .int) ∈ y_tb := y_in (mt_3 _ (List.mem_of_getElem? (i := 28) rfl)) rfl
theorem w_594 : Cond.methodLink RL 203 yX10_print ∈ y_tb := y_in (mt_3 _ (List.mem_of_getElem? (i := 29) rfl)) rfl
theorem w_595 : Cond.instanceMethod yX10_print ∈ y_tb := y_in (mt_3 _ (List.mem_of_getElem? (i := 30) rfl)) rfl
theorem w_596 : Cond.selects RX10 yX10_print yX10_print ∈ y_tb := y_in (mt_3 _ (List.mem_of_getElem? (i := 31) rfl)) rfl
theorem w_597 : Cond.code yX10_print cX10_print 4 (some .long) ∈ y_tb := y_in (mt_3 _ (List.mem_of_getElem? (i := 32) rfl)) rfl
theorem w_599 : Cond.methodLink RL 208 yX10_status ∈ y_tb := y_in (mt_3 _ (List.mem_of_getElem? (i := 34) rfl)) rfl
theorem w_600 : Cond.instanceMethod yX10_status ∈ y_tb := y_in (mt_3 _ (List.mem_of_getElem? (i := 35) rfl)) rfl
theorem w_601 : Cond.selects RX10 yX10_status yX10_status ∈ y_tb := y_in (mt_3 _ (List.mem_of_getElem? (i := 36) rfl)) rfl
theorem w_602 : Cond.code yX10_status cX10_status 2 (some .int) ∈ y_tb := y_in (mt_3 _ (List.mem_of_getElem? (i := 37) rfl)) rfl
theorem w_603 : Cond.methodLink RL 101 yL_text ∈ y_tb := y_in (mt_3 _ (List.mem_of_getElem? (i := 38) rfl)) rfl
theorem w_604 : Cond.static yL_text ∈ y_tb := y_in (mt_3 _ (List.mem_of_getElem? (i := 39) rfl)) rfl
theorem w_606 : Cond.classLink RL 13 "java/lang/IllegalArgumentException" ∈ y_tb := y_in (mt_3 _ (List.mem_of_getElem? (i := 41) rfl)) rfl
theorem w_607 : Cond.methodLink RL 7 yX10_text ∈ y_tb := y_in (mt_3 _ (List.mem_of_getElem? (i := 42) rfl)) rfl
theorem w_608 : Cond.instanceMethod yX10_text ∈ y_tb := y_in (mt_3 _ (List.mem_of_getElem? (i := 43) rfl)) rfl
theorem w_609 : Cond.selects RX10 yX10_text yX10_text ∈ y_tb := y_in (mt_3 _ (List.mem_of_getElem? (i := 44) rfl)) rfl
theorem w_610 : Cond.code yX10_text cX10_text 3 (some .int) ∈ y_tb := y_in (mt_3 _ (List.mem_of_getElem? (i := 45) rfl)) rfl
theorem w_611 : Cond.methodLink RX10 110 yX10_demand ∈ y_tb := y_in (mt_3 _ (List.mem_of_getElem? (i := 46) rfl)) rfl
theorem w_613 : Cond.instanceMethod yX10_demand ∈ y_tb := y_in (mt_3 _ (List.mem_of_getElem? (i := 48) rfl)) rfl
theorem w_614 : Cond.code yX10_demand cX10_demand 2 none ∈ y_tb := y_in (mt_3 _ (List.mem_of_getElem? (i := 49) rfl)) rfl
theorem w_615 : Cond.classLink RX10 428 "java/lang/IllegalArgumentException" ∈ y_tb := y_in (mt_3 _ (List.mem_of_getElem? (i := 50) rfl)) rfl
theorem w_616 : Cond.instantiable "java/lang/IllegalArgumentException" 6 ∈ y_tb := y_in (mt_3 _ (List.mem_of_getElem? (i := 51) rfl)) rfl
theorem w_624 : Cond.selects "java/lang/IllegalArgumentException" ⟨"java/lang/Throwable", "fillInStackTrace", "(I)Ljava/lang/Throwable;"⟩ ⟨"java/lang/Throwable", "fillInStackTrace", "(I)Ljava/lang/Throwable;"⟩ ∈ y_tb := y_in (mt_3 _ (List.mem_of_getElem? (i := 59) rfl)) rfl
theorem w_625 : Cond.selects "java/lang/IllegalArgumentException" ⟨"java/lang/Throwable", "fillInStackTrace", "()Ljava/lang/Throwable;"⟩ ⟨"java/lang/Throwable", "fillInStackTrace", "()Ljava/lang/Throwable;"⟩ ∈ y_tb := y_in (mt_3 _ (List.mem_of_getElem? (i := 60) rfl)) rfl
theorem w_636 : Cond.fieldLink "java/lang/Throwable" 198 "java/lang/Throwable" "backtrace" "Ljava/lang/Object;" ∈ y_tb := y_in (mt_3 _ (List.mem_of_getElem? (i := 71) rfl)) rfl
theorem w_638 : Cond.instanceMethod ⟨"java/lang/Throwable", "<init>", "()V"⟩ ∈ y_tb := y_in (mt_3 _ (List.mem_of_getElem? (i := 73) rfl)) rfl
theorem w_640 : Cond.methodLink "java/lang/Throwable" 1 ⟨"java/lang/Object", "<init>", "()V"⟩ ∈ y_tb := y_in (mt_3 _ (List.mem_of_getElem? (i := 75) rfl)) rfl
theorem w_641 : Cond.fieldLink "java/lang/Throwable" 13 "java/lang/Throwable" "UNASSIGNED_STACK" "[Ljava/lang/StackTraceElement;" ∈ y_tb := y_in (mt_3 _ (List.mem_of_getElem? (i := 76) rfl)) rfl
theorem w_643 : Cond.fieldLink "java/lang/Throwable" 20 "java/lang/Throwable" "SUPPRESSED_SENTINEL" "Ljava/util/List;" ∈ y_tb := y_in (mt_3 _ (List.mem_of_getElem? (i := 78) rfl)) rfl
theorem w_645 : Cond.methodLink "java/lang/Throwable" 27 ⟨"java/lang/Throwable", "fillInStackTrace", "()Ljava/lang/Throwable;"⟩ ∈ y_tb := y_in (mt_3 _ (List.mem_of_getElem? (i := 80) rfl)) rfl
theorem w_646 : Cond.instanceMethod ⟨"java/lang/Throwable", "fillInStackTrace", "()Ljava/lang/Throwable;"⟩ ∈ y_tb := y_in (mt_3 _ (List.mem_of_getElem? (i := 81) rfl)) rfl
theorem w_648 : Cond.selects "java/util/NoSuchElementException" ⟨"java/lang/Throwable", "fillInStackTrace", "()Ljava/lang/Throwable;"⟩ ⟨"java/lang/Throwable", "fillInStackTrace", "()Ljava/lang/Throwable;"⟩ ∈ y_tb := y_in (mt_3 _ (List.mem_of_getElem? (i := 83) rfl)) rfl
theorem w_650 : Cond.methodLink "java/lang/Throwable" 202 ⟨"java/lang/Throwable", "fillInStackTrace", "(I)Ljava/lang/Throwable;"⟩ ∈ y_tb := y_in (mt_3 _ (List.mem_of_getElem? (i := 85) rfl)) rfl
theorem w_652 : Cond.instanceMethod ⟨"java/lang/Throwable", "fillInStackTrace", "(I)Ljava/lang/Throwable;"⟩ ∈ y_tb := y_in (mt_3 _ (List.mem_of_getElem? (i := 87) rfl)) rfl
theorem w_653 : Cond.instantiable "java/lang/Throwable" 6 ∈ y_tb := y_in (mt_3 _ (List.mem_of_getElem? (i := 88) rfl)) rfl
theorem w_656 : Cond.methodLink RX10 432 ⟨"java/lang/IllegalArgumentException", "<init>", "(Ljava/lang/String;)V"⟩ ∈ y_tb := y_in (mt_3 _ (List.mem_of_getElem? (i := 91) rfl)) rfl
theorem w_657 : Cond.instanceMethod ⟨"java/lang/IllegalArgumentException", "<init>", "(Ljava/lang/String;)V"⟩ ∈ y_tb := y_in (mt_3 _ (List.mem_of_getElem? (i := 92) rfl)) rfl
theorem w_659 : Cond.methodLink "java/lang/IllegalArgumentException" 7 ⟨"java/lang/RuntimeException", "<init>", "(Ljava/lang/String;)V"⟩ ∈ y_tb := y_in (mt_3 _ (List.mem_of_getElem? (i := 94) rfl)) rfl
theorem w_660 : Cond.instanceMethod ⟨"java/lang/RuntimeException", "<init>", "(Ljava/lang/String;)V"⟩ ∈ y_tb := y_in (mt_3 _ (List.mem_of_getElem? (i := 95) rfl)) rfl
theorem w_662 : Cond.methodLink "java/lang/RuntimeException" 7 ⟨"java/lang/Exception", "<init>", "(Ljava/lang/String;)V"⟩ ∈ y_tb := y_in (mt_3 _ (List.mem_of_getElem? (i := 97) rfl)) rfl
theorem w_663 : Cond.instanceMethod ⟨"java/lang/Exception", "<init>", "(Ljava/lang/String;)V"⟩ ∈ y_tb := y_in (mt_3 _ (List.mem_of_getElem? (i := 98) rfl)) rfl
theorem w_665 : Cond.methodLink "java/lang/Exception" 7 ⟨"java/lang/Throwable", "<init>", "(Ljava/lang/String;)V"⟩ ∈ y_tb := y_in (mt_3 _ (List.mem_of_getElem? (i := 100) rfl)) rfl
theorem w_666 : Cond.instanceMethod ⟨"java/lang/Throwable", "<init>", "(Ljava/lang/String;)V"⟩ ∈ y_tb := y_in (mt_3 _ (List.mem_of_getElem? (i := 101) rfl)) rfl
theorem w_669 : Cond.fieldLink "java/lang/Throwable" 31 "java/lang/Throwable" "detailMessage" "Ljava/lang/String;" ∈ y_tb := y_in (mt_3 _ (List.mem_of_getElem? (i := 104) rfl)) rfl
theorem w_670 : Cond.fieldLink "java/lang/Throwable" 7 "java/lang/Throwable" "cause" "Ljava/lang/Throwable;" ∈ y_tb := y_in (mt_3 _ (List.mem_of_getElem? (i := 105) rfl)) rfl
theorem w_671 : Cond.fieldLink "java/lang/Throwable" 17 "java/lang/Throwable" "stackTrace" "[Ljava/lang/StackTraceElement;" ∈ y_tb := y_in (mt_3 _ (List.mem_of_getElem? (i := 106) rfl)) rfl
theorem w_672 : Cond.fieldLink "java/lang/Throwable" 24 "java/lang/Throwable" "suppressedExceptions" "Ljava/util/List;" ∈ y_tb := y_in (mt_3 _ (List.mem_of_getElem? (i := 107) rfl)) rfl
theorem w_682 : Cond.methodLink RX10 114 yX9_parse ∈ y_tb := y_in (mt_3 _ (List.mem_of_getElem? (i := 117) rfl)) rfl
theorem w_683 : Cond.instanceMethod yX9_parse ∈ y_tb := y_in (mt_3 _ (List.mem_of_getElem? (i := 118) rfl)) rfl
theorem w_684 : Cond.selects RX9 yX9_parse yX9_parse ∈ y_tb := y_in (mt_3 _ (List.mem_of_getElem? (i := 119) rfl)) rfl
theorem w_685 : Cond.code yX9_parse cX9_parse 3 (some .int) ∈ y_tb := y_in (mt_3 _ (List.mem_of_getElem? (i := 120) rfl)) rfl
theorem w_686 : Cond.methodLink RX9 43 yX9_readRow ∈ y_tb := y_in (mt_3 _ (List.mem_of_getElem? (i := 121) rfl)) rfl
theorem w_688 : Cond.instanceMethod yX9_readRow ∈ y_tb := y_in (mt_3 _ (List.mem_of_getElem? (i := 123) rfl)) rfl
theorem w_689 : Cond.code yX9_readRow cX9_readRow 6 none ∈ y_tb := y_in (mt_3 _ (List.mem_of_getElem? (i := 124) rfl)) rfl
theorem w_690 : Cond.methodLink RX9 51 yX9_readItem ∈ y_tb := y_in (mt_3 _ (List.mem_of_getElem? (i := 125) rfl)) rfl
theorem w_692 : Cond.instanceMethod yX9_readItem ∈ y_tb := y_in (mt_3 _ (List.mem_of_getElem? (i := 127) rfl)) rfl
theorem w_693 : Cond.code yX9_readItem cX9_readItem 6 (some .int) ∈ y_tb := y_in (mt_3 _ (List.mem_of_getElem? (i := 128) rfl)) rfl
theorem w_694 : Cond.methodLink RX9 55 yX9_readTimes ∈ y_tb := y_in (mt_3 _ (List.mem_of_getElem? (i := 129) rfl)) rfl
theorem w_696 : Cond.instanceMethod yX9_readTimes ∈ y_tb := y_in (mt_3 _ (List.mem_of_getElem? (i := 131) rfl)) rfl
theorem w_697 : Cond.code yX9_readTimes cX9_readTimes 3 (some .int) ∈ y_tb := y_in (mt_3 _ (List.mem_of_getElem? (i := 132) rfl)) rfl
theorem w_698 : Cond.methodLink RX9 59 ⟨"java/lang/Math", "min", "(II)I"⟩ ∈ y_tb := y_in (mt_3 _ (List.mem_of_getElem? (i := 133) rfl)) rfl
theorem w_699 : Cond.static ⟨"java/lang/Math", "min", "(II)I"⟩ ∈ y_tb := y_in (mt_3 _ (List.mem_of_getElem? (i := 134) rfl)) rfl
theorem w_701 : Cond.methodLink RX9 47 yX9_failAt ∈ y_tb := y_in (mt_3 _ (List.mem_of_getElem? (i := 136) rfl)) rfl
theorem w_703 : Cond.instanceMethod yX9_failAt ∈ y_tb := y_in (mt_3 _ (List.mem_of_getElem? (i := 138) rfl)) rfl
theorem w_704 : Cond.code yX9_failAt cX9_failAt 3 none ∈ y_tb := y_in (mt_3 _ (List.mem_of_getElem? (i := 139) rfl)) rfl
theorem w_705 : Cond.methodLink RX10 130 yX4_load ∈ y_tb := y_in (mt_3 _ (List.mem_of_getElem? (i := 140) rfl)) rfl
theorem w_706 : Cond.instanceMethod yX4_load ∈ y_tb := y_in (mt_3 _ (List.mem_of_getElem? (i := 141) rfl)) rfl
theorem w_707 : Cond.selects RX4 yX4_load yX4_load ∈ y_tb := y_in (mt_3 _ (List.mem_of_getElem? (i := 142) rfl)) rfl
theorem w_708 : Cond.code yX4_load cX4_load 5 none ∈ y_tb := y_in (mt_3 _ (List.mem_of_getElem? (i := 143) rfl)) rfl
theorem w_709 : Cond.methodLink RX4 54 yX4_give ∈ y_tb := y_in (mt_3 _ (List.mem_of_getElem? (i := 144) rfl)) rfl
theorem w_710 : Cond.instanceMethod yX4_give ∈ y_tb := y_in (mt_3 _ (List.mem_of_getElem? (i := 145) rfl)) rfl
theorem w_711 : Cond.selects RX4 yX4_give yX4_give ∈ y_tb := y_in (mt_3 _ (List.mem_of_getElem? (i := 146) rfl)) rfl
theorem w_712 : Cond.code yX4_give cX4_give 3 none ∈ y_tb := y_in (mt_3 _ (List.mem_of_getElem? (i := 147) rfl)) rfl
theorem w_713 : Cond.methodLink RX10 134 yX2_clear ∈ y_tb := y_in (mt_3 _ (List.mem_of_getElem? (i := 148) rfl)) rfl
theorem w_714 : Cond.instanceMethod yX2_clear ∈ y_tb := y_in (mt_3 _ (List.mem_of_getElem? (i := 149) rfl)) rfl
theorem w_715 : Cond.selects RX2 yX2_clear yX2_clear ∈ y_tb := y_in (mt_3 _ (List.mem_of_getElem? (i := 150) rfl)) rfl
theorem w_716 : Cond.code yX2_clear cX2_clear 1 none ∈ y_tb := y_in (mt_3 _ (List.mem_of_getElem? (i := 151) rfl)) rfl
theorem w_717 : Cond.methodLink RX10 137 yX1_clear ∈ y_tb := y_in (mt_3 _ (List.mem_of_getElem? (i := 152) rfl)) rfl
theorem w_718 : Cond.instanceMethod yX1_clear ∈ y_tb := y_in (mt_3 _ (List.mem_of_getElem? (i := 153) rfl)) rfl
theorem w_719 : Cond.selects RX1 yX1_clear yX1_clear ∈ y_tb := y_in (mt_3 _ (List.mem_of_getElem? (i := 154) rfl)) rfl
theorem w_720 : Cond.code yX1_clear cX1_clear 1 none ∈ y_tb := y_in (mt_3 _ (List.mem_of_getElem? (i := 155) rfl)) rfl
theorem w_721 : Cond.methodLink RL 115 yL_set ∈ y_tb := y_in (mt_3 _ (List.mem_of_getElem? (i := 156) rfl)) rfl
theorem w_722 : Cond.static yL_set ∈ y_tb := y_in (mt_3 _ (List.mem_of_getElem? (i := 157) rfl)) rfl
theorem w_724 : Cond.methodLink RL 15 yX10_set ∈ y_tb := y_in (mt_3 _ (List.mem_of_getElem? (i := 159) rfl)) rfl
theorem w_725 : Cond.instanceMethod yX10_set ∈ y_tb := y_in (mt_3 _ (List.mem_of_getElem? (i := 160) rfl)) rfl
theorem w_726 : Cond.selects RX10 yX10_set yX10_set ∈ y_tb := y_in (mt_3 _ (List.mem_of_getElem? (i := 161) rfl)) rfl
theorem w_727 : Cond.code yX10_set cX10_set 4 (some .int) ∈ y_tb := y_in (mt_3 _ (List.mem_of_getElem? (i := 162) rfl)) rfl
theorem w_728 : Cond.methodLink RX10 145 yX7_allows ∈ y_tb := y_in (mt_3 _ (List.mem_of_getElem? (i := 163) rfl)) rfl
theorem w_729 : Cond.instanceMethod yX7_allows ∈ y_tb := y_in (mt_3 _ (List.mem_of_getElem? (i := 164) rfl)) rfl
theorem w_730 : Cond.selects RX7 yX7_allows yX7_allows ∈ y_tb := y_in (mt_3 _ (List.mem_of_getElem? (i := 165) rfl)) rfl
theorem w_731 : Cond.code yX7_allows cX7_allows 3 (some .boolean) ∈ y_tb := y_in (mt_3 _ (List.mem_of_getElem? (i := 166) rfl)) rfl
theorem w_732 : Cond.fieldLink RX7 33 "FilledHoles$Settings" "LEAST" "[I" ∈ y_tb := y_in (mt_3 _ (List.mem_of_getElem? (i := 167) rfl)) rfl
theorem w_734 : Cond.fieldLink RX7 37 "FilledHoles$Settings" "MOST" "[I" ∈ y_tb := y_in (mt_3 _ (List.mem_of_getElem? (i := 169) rfl)) rfl
theorem w_736 : Cond.methodLink RX10 149 yX7_value ∈ y_tb := y_in (mt_3 _ (List.mem_of_getElem? (i := 171) rfl)) rfl
theorem w_737 : Cond.instanceMethod yX7_value ∈ y_tb := y_in (mt_3 _ (List.mem_of_getElem? (i := 172) rfl)) rfl
theorem w_738 : Cond.selects RX7 yX7_value yX7_value ∈ y_tb := y_in (mt_3 _ (List.mem_of_getElem? (i := 173) rfl)) rfl
theorem w_739 : Cond.code yX7_value cX7_value 2 (some .int) ∈ y_tb := y_in (mt_3 _ (List.mem_of_getElem? (i := 174) rfl)) rfl
theorem w_740 : Cond.methodLink RX10 152 yX7_change ∈ y_tb := y_in (mt_3 _ (List.mem_of_getElem? (i := 175) rfl)) rfl
theorem w_741 : Cond.instanceMethod yX7_change ∈ y_tb := y_in (mt_3 _ (List.mem_of_getElem? (i := 176) rfl)) rfl
theorem w_742 : Cond.selects RX7 yX7_change yX7_change ∈ y_tb := y_in (mt_3 _ (List.mem_of_getElem? (i := 177) rfl)) rfl
theorem w_743 : Cond.code yX7_change cX7_change 3 none ∈ y_tb := y_in (mt_3 _ (List.mem_of_getElem? (i := 178) rfl)) rfl
theorem w_744 : Cond.methodLink RL 119 yL_hole ∈ y_tb := y_in (mt_3 _ (List.mem_of_getElem? (i := 179) rfl)) rfl
theorem w_745 : Cond.static yL_hole ∈ y_tb := y_in (mt_3 _ (List.mem_of_getElem? (i := 180) rfl)) rfl
theorem w_747 : Cond.classLink RL 23 "java/util/NoSuchElementException" ∈ y_tb := y_in (mt_3 _ (List.mem_of_getElem? (i := 182) rfl)) rfl
theorem w_748 : Cond.methodLink RL 19 yX10_hole ∈ y_tb := y_in (mt_3 _ (List.mem_of_getElem? (i := 183) rfl)) rfl
theorem w_749 : Cond.instanceMethod yX10_hole ∈ y_tb := y_in (mt_3 _ (List.mem_of_getElem? (i := 184) rfl)) rfl
theorem w_750 : Cond.selects RX10 yX10_hole yX10_hole ∈ y_tb := y_in (mt_3 _ (List.mem_of_getElem? (i := 185) rfl)) rfl
theorem w_751 : Cond.code yX10_hole cX10_hole 8 (some .int) ∈ y_tb := y_in (mt_3 _ (List.mem_of_getElem? (i := 186) rfl)) rfl
theorem w_752 : Cond.methodLink RX10 156 yX10_demandDot ∈ y_tb := y_in (mt_3 _ (List.mem_of_getElem? (i := 187) rfl)) rfl
theorem w_754 : Cond.instanceMethod yX10_demandDot ∈ y_tb := y_in (mt_3 _ (List.mem_of_getElem? (i := 189) rfl)) rfl
theorem w_755 : Cond.code yX10_demandDot cX10_demandDot 3 none ∈ y_tb := y_in (mt_3 _ (List.mem_of_getElem? (i := 190) rfl)) rfl
theorem w_756 : Cond.methodLink RX10 381 yX4_has ∈ y_tb := y_in (mt_3 _ (List.mem_of_getElem? (i := 191) rfl)) rfl
theorem w_757 : Cond.instanceMethod yX4_has ∈ y_tb := y_in (mt_3 _ (List.mem_of_getElem? (i := 192) rfl)) rfl
theorem w_758 : Cond.selects RX4 yX4_has yX4_has ∈ y_tb := y_in (mt_3 _ (List.mem_of_getElem? (i := 193) rfl)) rfl
theorem w_759 : Cond.code yX4_has cX4_has 3 (some .boolean) ∈ y_tb := y_in (mt_3 _ (List.mem_of_getElem? (i := 194) rfl)) rfl
theorem w_760 : Cond.methodLink RX10 365 yX10_refuseNoSuch ∈ y_tb := y_in (mt_3 _ (List.mem_of_getElem? (i := 195) rfl)) rfl
theorem w_762 : Cond.instanceMethod yX10_refuseNoSuch ∈ y_tb := y_in (mt_3 _ (List.mem_of_getElem? (i := 197) rfl)) rfl
theorem w_763 : Cond.code yX10_refuseNoSuch cX10_refuseNoSuch 1 none ∈ y_tb := y_in (mt_3 _ (List.mem_of_getElem? (i := 198) rfl)) rfl
theorem w_764 : Cond.classLink RX10 421 "java/util/NoSuchElementException" ∈ y_tb := y_in (mt_3 _ (List.mem_of_getElem? (i := 199) rfl)) rfl
theorem w_765 : Cond.instantiable "java/util/NoSuchElementException" 6 ∈ y_tb := y_in (mt_3 _ (List.mem_of_getElem? (i := 200) rfl)) rfl
theorem w_767 : Cond.selects "java/util/NoSuchElementException" ⟨"java/lang/Throwable", "fillInStackTrace", "(I)Ljava/lang/Throwable;"⟩ ⟨"java/lang/Throwable", "fillInStackTrace", "(I)Ljava/lang/Throwable;"⟩ ∈ y_tb := y_in (mt_3 _ (List.mem_of_getElem? (i := 202) rfl)) rfl
theorem w_774 : Cond.methodLink RX10 425 ⟨"java/util/NoSuchElementException", "<init>", "(Ljava/lang/String;)V"⟩ ∈ y_tb := y_in (mt_3 _ (List.mem_of_getElem? (i := 209) rfl)) rfl
theorem w_775 : Cond.instanceMethod ⟨"java/util/NoSuchElementException", "<init>", "(Ljava/lang/String;)V"⟩ ∈ y_tb := y_in (mt_3 _ (List.mem_of_getElem? (i := 210) rfl)) rfl
theorem w_777 : Cond.methodLink "java/util/NoSuchElementException" 13 ⟨"java/lang/RuntimeException", "<init>", "(Ljava/lang/String;)V"⟩ ∈ y_tb := y_in (mt_3 _ (List.mem_of_getElem? (i := 212) rfl)) rfl
theorem w_780 : Cond.methodLink RX10 159 yX4_isKnown ∈ y_tb := y_in (mt_3 _ (List.mem_of_getElem? (i := 215) rfl)) rfl
theorem w_781 : Cond.instanceMethod yX4_isKnown ∈ y_tb := y_in (mt_3 _ (List.mem_of_getElem? (i := 216) rfl)) rfl
theorem w_782 : Cond.selects RX4 yX4_isKnown yX4_isKnown ∈ y_tb := y_in (mt_3 _ (List.mem_of_getElem? (i := 217) rfl)) rfl
theorem w_783 : Cond.code yX4_isKnown cX4_isKnown 3 (some .boolean) ∈ y_tb := y_in (mt_3 _ (List.mem_of_getElem? (i := 218) rfl)) rfl
theorem w_784 : Cond.methodLink RX4 40 yX4_has ∈ y_tb := y_in (mt_3 _ (List.mem_of_getElem? (i := 219) rfl)) rfl
theorem w_785 : Cond.methodLink RX10 162 yX1_prepare ∈ y_tb := y_in (mt_3 _ (List.mem_of_getElem? (i := 220) rfl)) rfl
theorem w_786 : Cond.instanceMethod yX1_prepare ∈ y_tb := y_in (mt_3 _ (List.mem_of_getElem? (i := 221) rfl)) rfl
theorem w_787 : Cond.selects RX1 yX1_prepare yX1_prepare ∈ y_tb := y_in (mt_3 _ (List.mem_of_getElem? (i := 222) rfl)) rfl
theorem w_788 : Cond.code yX1_prepare cX1_prepare 4 none ∈ y_tb := y_in (mt_3 _ (List.mem_of_getElem? (i := 223) rfl)) rfl
theorem w_789 : Cond.methodLink RX10 166 yX1_commitIfAny ∈ y_tb := y_in (mt_3 _ (List.mem_of_getElem? (i := 224) rfl)) rfl
theorem w_790 : Cond.instanceMethod yX1_commitIfAny ∈ y_tb := y_in (mt_3 _ (List.mem_of_getElem? (i := 225) rfl)) rfl
theorem w_791 : Cond.selects RX1 yX1_commitIfAny yX1_commitIfAny ∈ y_tb := y_in (mt_3 _ (List.mem_of_getElem? (i := 226) rfl)) rfl
theorem w_792 : Cond.code yX1_commitIfAny cX1_commitIfAny 2 (some .int) ∈ y_tb := y_in (mt_3 _ (List.mem_of_getElem? (i := 227) rfl)) rfl
theorem w_793 : Cond.methodLink RX1 42 ⟨"java/lang/Math", "min", "(II)I"⟩ ∈ y_tb := y_in (mt_3 _ (List.mem_of_getElem? (i := 228) rfl)) rfl
theorem w_794 : Cond.methodLink RX10 169 yX4_at ∈ y_tb := y_in (mt_3 _ (List.mem_of_getElem? (i := 229) rfl)) rfl
theorem w_795 : Cond.instanceMethod yX4_at ∈ y_tb := y_in (mt_3 _ (List.mem_of_getElem? (i := 230) rfl)) rfl
theorem w_796 : Cond.selects RX4 yX4_at yX4_at ∈ y_tb := y_in (mt_3 _ (List.mem_of_getElem? (i := 231) rfl)) rfl
theorem w_797 : Cond.code yX4_at cX4_at 3 (some .int) ∈ y_tb := y_in (mt_3 _ (List.mem_of_getElem? (i := 232) rfl)) rfl
theorem w_798 : Cond.methodLink RX10 173 yX4_give ∈ y_tb := y_in (mt_3 _ (List.mem_of_getElem? (i := 233) rfl)) rfl
theorem w_799 : Cond.methodLink RL 123 yL_paint ∈ y_tb := y_in (mt_3 _ (List.mem_of_getElem? (i := 234) rfl)) rfl
theorem w_800 : Cond.static yL_paint ∈ y_tb := y_in (mt_3 _ (List.mem_of_getElem? (i := 235) rfl)) rfl
theorem w_802 : Cond.methodLink RL 25 yX10_paint ∈ y_tb := y_in (mt_3 _ (List.mem_of_getElem? (i := 237) rfl)) rfl
theorem w_803 : Cond.instanceMethod yX10_paint ∈ y_tb := y_in (mt_3 _ (List.mem_of_getElem? (i := 238) rfl)) rfl
theorem w_804 : Cond.selects RX10 yX10_paint yX10_paint ∈ y_tb := y_in (mt_3 _ (List.mem_of_getElem? (i := 239) rfl)) rfl
theorem w_805 : Cond.code yX10_paint cX10_paint 6 (some .int) ∈ y_tb := y_in (mt_4 _ (List.mem_of_getElem? (i := 0) rfl)) rfl
theorem w_806 : Cond.methodLink RL 131 yL_fill ∈ y_tb := y_in (mt_4 _ (List.mem_of_getElem? (i := 1) rfl)) rfl
theorem w_807 : Cond.static yL_fill ∈ y_tb := y_in (mt_4 _ (List.mem_of_getElem? (i := 2) rfl)) rfl
theorem w_809 : Cond.methodLink RL 29 yX10_fill ∈ y_tb := y_in (mt_4 _ (List.mem_of_getElem? (i := 4) rfl)) rfl
theorem w_810 : Cond.instanceMethod yX10_fill ∈ y_tb := y_in (mt_4 _ (List.mem_of_getElem? (i := 5) rfl)) rfl
theorem w_811 : Cond.selects RX10 yX10_fill yX10_fill ∈ y_tb := y_in (mt_4 _ (List.mem_of_getElem? (i := 6) rfl)) rfl
theorem w_812 : Cond.code yX10_fill cX10_fill 2 (some .int) ∈ y_tb := y_in (mt_4 _ (List.mem_of_getElem? (i := 7) rfl)) rfl
theorem w_813 : Cond.methodLink RX10 184 yX0_run ∈ y_tb := y_in (mt_4 _ (List.mem_of_getElem? (i := 8) rfl)) rfl
theorem w_814 : Cond.instanceMethod yX0_run ∈ y_tb := y_in (mt_4 _ (List.mem_of_getElem? (i := 9) rfl)) rfl
theorem w_815 : Cond.selects RX0 yX0_run yX0_run ∈ y_tb := y_in (mt_4 _ (List.mem_of_getElem? (i := 10) rfl)) rfl
theorem w_816 : Cond.code yX0_run cX0_run 7 (some .int) ∈ y_tb := y_in (mt_4 _ (List.mem_of_getElem? (i := 11) rfl)) rfl
theorem w_817 : Cond.methodLink RX0 44 yX0_makeHalves ∈ y_tb := y_in (mt_4 _ (List.mem_of_getElem? (i := 12) rfl)) rfl
theorem w_818 : Cond.instanceMethod yX0_makeHalves ∈ y_tb := y_in (mt_4 _ (List.mem_of_getElem? (i := 13) rfl)) rfl
theorem w_819 : Cond.selects RX0 yX0_makeHalves yX0_makeHalves ∈ y_tb := y_in (mt_4 _ (List.mem_of_getElem? (i := 14) rfl)) rfl
theorem w_820 : Cond.code yX0_makeHalves cX0_makeHalves 3 (some .int) ∈ y_tb := y_in (mt_4 _ (List.mem_of_getElem? (i := 15) rfl)) rfl
theorem w_821 : Cond.methodLink RX0 36 yX4_hasHalf ∈ y_tb := y_in (mt_4 _ (List.mem_of_getElem? (i := 16) rfl)) rfl
theorem w_822 : Cond.instanceMethod yX4_hasHalf ∈ y_tb := y_in (mt_4 _ (List.mem_of_getElem? (i := 17) rfl)) rfl
theorem w_823 : Cond.selects RX4 yX4_hasHalf yX4_hasHalf ∈ y_tb := y_in (mt_4 _ (List.mem_of_getElem? (i := 18) rfl)) rfl
theorem w_824 : Cond.code yX4_hasHalf cX4_hasHalf 1 (some .boolean) ∈ y_tb := y_in (mt_4 _ (List.mem_of_getElem? (i := 19) rfl)) rfl
theorem w_825 : Cond.methodLink RX0 40 yX4_becomeHalfOf ∈ y_tb := y_in (mt_4 _ (List.mem_of_getElem? (i := 20) rfl)) rfl
theorem w_826 : Cond.instanceMethod yX4_becomeHalfOf ∈ y_tb := y_in (mt_4 _ (List.mem_of_getElem? (i := 21) rfl)) rfl
theorem w_827 : Cond.selects RX4 yX4_becomeHalfOf yX4_becomeHalfOf ∈ y_tb := y_in (mt_4 _ (List.mem_of_getElem? (i := 22) rfl)) rfl
theorem w_828 : Cond.code yX4_becomeHalfOf cX4_becomeHalfOf 3 none ∈ y_tb := y_in (mt_4 _ (List.mem_of_getElem? (i := 23) rfl)) rfl
theorem w_829 : Cond.methodLink RX4 64 yX4_xOf ∈ y_tb := y_in (mt_4 _ (List.mem_of_getElem? (i := 24) rfl)) rfl
theorem w_830 : Cond.instanceMethod yX4_xOf ∈ y_tb := y_in (mt_4 _ (List.mem_of_getElem? (i := 25) rfl)) rfl
theorem w_831 : Cond.selects RX4 yX4_xOf yX4_xOf ∈ y_tb := y_in (mt_4 _ (List.mem_of_getElem? (i := 26) rfl)) rfl
theorem w_832 : Cond.code yX4_xOf cX4_xOf 2 (some .int) ∈ y_tb := y_in (mt_4 _ (List.mem_of_getElem? (i := 27) rfl)) rfl
theorem w_833 : Cond.methodLink RX4 68 yX4_yOf ∈ y_tb := y_in (mt_4 _ (List.mem_of_getElem? (i := 28) rfl)) rfl
theorem w_834 : Cond.instanceMethod yX4_yOf ∈ y_tb := y_in (mt_4 _ (List.mem_of_getElem? (i := 29) rfl)) rfl
theorem w_835 : Cond.selects RX4 yX4_yOf yX4_yOf ∈ y_tb := y_in (mt_4 _ (List.mem_of_getElem? (i := 30) rfl)) rfl
theorem w_836 : Cond.code yX4_yOf cX4_yOf 2 (some .int) ∈ y_tb := y_in (mt_4 _ (List.mem_of_getElem? (i := 31) rfl)) rfl
theorem w_837 : Cond.methodLink RX4 71 yX4_meanOfFour ∈ y_tb := y_in (mt_4 _ (List.mem_of_getElem? (i := 32) rfl)) rfl
theorem w_839 : Cond.instanceMethod yX4_meanOfFour ∈ y_tb := y_in (mt_4 _ (List.mem_of_getElem? (i := 34) rfl)) rfl
theorem w_840 : Cond.code yX4_meanOfFour cX4_meanOfFour 7 (some .int) ∈ y_tb := y_in (mt_4 _ (List.mem_of_getElem? (i := 35) rfl)) rfl
theorem w_841 : Cond.methodLink RX4 47 yX4_isKnown ∈ y_tb := y_in (mt_4 _ (List.mem_of_getElem? (i := 36) rfl)) rfl
theorem w_842 : Cond.methodLink RX0 48 yX2_clear ∈ y_tb := y_in (mt_4 _ (List.mem_of_getElem? (i := 37) rfl)) rfl
theorem w_843 : Cond.methodLink RX0 51 yX0_repeat ∈ y_tb := y_in (mt_4 _ (List.mem_of_getElem? (i := 38) rfl)) rfl
theorem w_845 : Cond.instanceMethod yX0_repeat ∈ y_tb := y_in (mt_4 _ (List.mem_of_getElem? (i := 40) rfl)) rfl
theorem w_846 : Cond.code yX0_repeat cX0_repeat 7 (some .int) ∈ y_tb := y_in (mt_4 _ (List.mem_of_getElem? (i := 41) rfl)) rfl
theorem w_847 : Cond.methodLink RX0 55 yX0_fillOnce ∈ y_tb := y_in (mt_4 _ (List.mem_of_getElem? (i := 42) rfl)) rfl
theorem w_849 : Cond.instanceMethod yX0_fillOnce ∈ y_tb := y_in (mt_4 _ (List.mem_of_getElem? (i := 44) rfl)) rfl
theorem w_850 : Cond.code yX0_fillOnce cX0_fillOnce 9 (some .boolean) ∈ y_tb := y_in (mt_4 _ (List.mem_of_getElem? (i := 45) rfl)) rfl
theorem w_851 : Cond.methodLink RX0 59 yX5_lineUp ∈ y_tb := y_in (mt_4 _ (List.mem_of_getElem? (i := 46) rfl)) rfl
theorem w_852 : Cond.instanceMethod yX5_lineUp ∈ y_tb := y_in (mt_4 _ (List.mem_of_getElem? (i := 47) rfl)) rfl
theorem w_853 : Cond.selects RX5 yX5_lineUp yX5_lineUp ∈ y_tb := y_in (mt_4 _ (List.mem_of_getElem? (i := 48) rfl)) rfl
theorem w_854 : Cond.code yX5_lineUp cX5_lineUp 6 none ∈ y_tb := y_in (mt_4 _ (List.mem_of_getElem? (i := 49) rfl)) rfl
theorem w_855 : Cond.methodLink RX5 89 yX4_dots ∈ y_tb := y_in (mt_4 _ (List.mem_of_getElem? (i := 50) rfl)) rfl
theorem w_856 : Cond.methodLink RX5 93 yX4_xOf ∈ y_tb := y_in (mt_4 _ (List.mem_of_getElem? (i := 51) rfl)) rfl
theorem w_857 : Cond.methodLink RX5 96 yX4_yOf ∈ y_tb := y_in (mt_4 _ (List.mem_of_getElem? (i := 52) rfl)) rfl
theorem w_858 : Cond.methodLink RX5 99 yX4_isOnFront ∈ y_tb := y_in (mt_4 _ (List.mem_of_getElem? (i := 53) rfl)) rfl
theorem w_859 : Cond.instanceMethod yX4_isOnFront ∈ y_tb := y_in (mt_4 _ (List.mem_of_getElem? (i := 54) rfl)) rfl
theorem w_860 : Cond.selects RX4 yX4_isOnFront yX4_isOnFront ∈ y_tb := y_in (mt_4 _ (List.mem_of_getElem? (i := 55) rfl)) rfl
theorem w_861 : Cond.code yX4_isOnFront cX4_isOnFront 3 (some .boolean) ∈ y_tb := y_in (mt_4 _ (List.mem_of_getElem? (i := 56) rfl)) rfl
theorem w_862 : Cond.methodLink RX4 44 yX4_isMissing ∈ y_tb := y_in (mt_4 _ (List.mem_of_getElem? (i := 57) rfl)) rfl
theorem w_863 : Cond.instanceMethod yX4_isMissing ∈ y_tb := y_in (mt_4 _ (List.mem_of_getElem? (i := 58) rfl)) rfl
theorem w_864 : Cond.selects RX4 yX4_isMissing yX4_isMissing ∈ y_tb := y_in (mt_4 _ (List.mem_of_getElem? (i := 59) rfl)) rfl
theorem w_865 : Cond.code yX4_isMissing cX4_isMissing 3 (some .boolean) ∈ y_tb := y_in (mt_4 _ (List.mem_of_getElem? (i := 60) rfl)) rfl
theorem w_866 : Cond.methodLink RX5 102 yX5_measure ∈ y_tb := y_in (mt_4 _ (List.mem_of_getElem? (i := 61) rfl)) rfl
theorem w_867 : Cond.instanceMethod yX5_measure ∈ y_tb := y_in (mt_4 _ (List.mem_of_getElem? (i := 62) rfl)) rfl
theorem w_868 : Cond.selects RX5 yX5_measure yX5_measure ∈ y_tb := y_in (mt_4 _ (List.mem_of_getElem? (i := 63) rfl)) rfl
theorem w_869 : Cond.code yX5_measure cX5_measure 6 none ∈ y_tb := y_in (mt_4 _ (List.mem_of_getElem? (i := 64) rfl)) rfl
theorem w_870 : Cond.methodLink RX5 48 yX5_measureSteady ∈ y_tb := y_in (mt_4 _ (List.mem_of_getElem? (i := 65) rfl)) rfl
theorem w_872 : Cond.instanceMethod yX5_measureSteady ∈ y_tb := y_in (mt_4 _ (List.mem_of_getElem? (i := 67) rfl)) rfl
theorem w_873 : Cond.code yX5_measureSteady cX5_measureSteady 11 none ∈ y_tb := y_in (mt_4 _ (List.mem_of_getElem? (i := 68) rfl)) rfl
theorem w_874 : Cond.methodLink RX5 73 ⟨"java/lang/Math", "min", "(II)I"⟩ ∈ y_tb := y_in (mt_4 _ (List.mem_of_getElem? (i := 69) rfl)) rfl
theorem w_875 : Cond.methodLink RX5 80 ⟨"java/lang/Math", "max", "(II)I"⟩ ∈ y_tb := y_in (mt_4 _ (List.mem_of_getElem? (i := 70) rfl)) rfl
theorem w_876 : Cond.static ⟨"java/lang/Math", "max", "(II)I"⟩ ∈ y_tb := y_in (mt_4 _ (List.mem_of_getElem? (i := 71) rfl)) rfl
theorem w_878 : Cond.methodLink RX5 52 yX5_measureSlope ∈ y_tb := y_in (mt_4 _ (List.mem_of_getElem? (i := 73) rfl)) rfl
theorem w_880 : Cond.instanceMethod yX5_measureSlope ∈ y_tb := y_in (mt_4 _ (List.mem_of_getElem? (i := 75) rfl)) rfl
theorem w_881 : Cond.code yX5_measureSlope cX5_measureSlope 16 none ∈ y_tb := y_in (mt_4 _ (List.mem_of_getElem? (i := 76) rfl)) rfl
theorem w_882 : Cond.methodLink RX5 61 ⟨"java/lang/Math", "abs", "(I)I"⟩ ∈ y_tb := y_in (mt_4 _ (List.mem_of_getElem? (i := 77) rfl)) rfl
theorem w_883 : Cond.static ⟨"java/lang/Math", "abs", "(I)I"⟩ ∈ y_tb := y_in (mt_4 _ (List.mem_of_getElem? (i := 78) rfl)) rfl
theorem w_885 : Cond.methodLink RX5 55 yX4_isMissing ∈ y_tb := y_in (mt_4 _ (List.mem_of_getElem? (i := 80) rfl)) rfl
theorem w_886 : Cond.methodLink RX0 65 yX5_foremost ∈ y_tb := y_in (mt_4 _ (List.mem_of_getElem? (i := 81) rfl)) rfl
theorem w_887 : Cond.instanceMethod yX5_foremost ∈ y_tb := y_in (mt_4 _ (List.mem_of_getElem? (i := 82) rfl)) rfl
theorem w_888 : Cond.selects RX5 yX5_foremost yX5_foremost ∈ y_tb := y_in (mt_4 _ (List.mem_of_getElem? (i := 83) rfl)) rfl
theorem w_889 : Cond.code yX5_foremost cX5_foremost 3 (some .int) ∈ y_tb := y_in (mt_4 _ (List.mem_of_getElem? (i := 84) rfl)) rfl
theorem w_890 : Cond.methodLink RX0 73 yX4_xOf ∈ y_tb := y_in (mt_4 _ (List.mem_of_getElem? (i := 85) rfl)) rfl
theorem w_891 : Cond.methodLink RX0 77 yX4_yOf ∈ y_tb := y_in (mt_4 _ (List.mem_of_getElem? (i := 86) rfl)) rfl
theorem w_892 : Cond.methodLink RX0 80 yX5_measure ∈ y_tb := y_in (mt_4 _ (List.mem_of_getElem? (i := 87) rfl)) rfl
theorem w_893 : Cond.methodLink RX0 84 yX6_aim ∈ y_tb := y_in (mt_4 _ (List.mem_of_getElem? (i := 88) rfl)) rfl
theorem w_894 : Cond.instanceMethod yX6_aim ∈ y_tb := y_in (mt_4 _ (List.mem_of_getElem? (i := 89) rfl)) rfl
theorem w_895 : Cond.selects RX6 yX6_aim yX6_aim ∈ y_tb := y_in (mt_4 _ (List.mem_of_getElem? (i := 90) rfl)) rfl
theorem w_896 : Cond.code yX6_aim cX6_aim 5 none ∈ y_tb := y_in (mt_4 _ (List.mem_of_getElem? (i := 91) rfl)) rfl
theorem w_897 : Cond.methodLink RX6 76 yX6_countUnusable ∈ y_tb := y_in (mt_4 _ (List.mem_of_getElem? (i := 92) rfl)) rfl
theorem w_899 : Cond.instanceMethod yX6_countUnusable ∈ y_tb := y_in (mt_4 _ (List.mem_of_getElem? (i := 94) rfl)) rfl
theorem w_900 : Cond.code yX6_countUnusable cX6_countUnusable 8 none ∈ y_tb := y_in (mt_4 _ (List.mem_of_getElem? (i := 95) rfl)) rfl
theorem w_901 : Cond.methodLink RX6 95 yX4_at ∈ y_tb := y_in (mt_4 _ (List.mem_of_getElem? (i := 96) rfl)) rfl
theorem w_902 : Cond.methodLink RX6 79 yX6_gatherKnown ∈ y_tb := y_in (mt_4 _ (List.mem_of_getElem? (i := 97) rfl)) rfl
theorem w_904 : Cond.instanceMethod yX6_gatherKnown ∈ y_tb := y_in (mt_4 _ (List.mem_of_getElem? (i := 99) rfl)) rfl
theorem w_905 : Cond.code yX6_gatherKnown cX6_gatherKnown 7 none ∈ y_tb := y_in (mt_4 _ (List.mem_of_getElem? (i := 100) rfl)) rfl
theorem w_906 : Cond.methodLink RX6 111 yX4_isKnown ∈ y_tb := y_in (mt_4 _ (List.mem_of_getElem? (i := 101) rfl)) rfl
theorem w_907 : Cond.methodLink RX6 118 yX6_placeStep ∈ y_tb := y_in (mt_4 _ (List.mem_of_getElem? (i := 102) rfl)) rfl
theorem w_908 : Cond.instanceMethod yX6_placeStep ∈ y_tb := y_in (mt_4 _ (List.mem_of_getElem? (i := 103) rfl)) rfl
theorem w_909 : Cond.selects RX6 yX6_placeStep yX6_placeStep ∈ y_tb := y_in (mt_4 _ (List.mem_of_getElem? (i := 104) rfl)) rfl
theorem w_910 : Cond.code yX6_placeStep cX6_placeStep 6 (some .int) ∈ y_tb := y_in (mt_4 _ (List.mem_of_getElem? (i := 105) rfl)) rfl
theorem w_911 : Cond.fieldLink RX6 122 "FilledHoles$Searcher" "X_BY_DX" "[I" ∈ y_tb := y_in (mt_4 _ (List.mem_of_getElem? (i := 106) rfl)) rfl
theorem w_913 : Cond.fieldLink RX6 125 "FilledHoles$Searcher" "X_BY_DY" "[I" ∈ y_tb := y_in (mt_4 _ (List.mem_of_getElem? (i := 108) rfl)) rfl
theorem w_915 : Cond.fieldLink RX6 128 "FilledHoles$Searcher" "Y_BY_DX" "[I" ∈ y_tb := y_in (mt_4 _ (List.mem_of_getElem? (i := 110) rfl)) rfl
theorem w_917 : Cond.fieldLink RX6 131 "FilledHoles$Searcher" "Y_BY_DY" "[I" ∈ y_tb := y_in (mt_4 _ (List.mem_of_getElem? (i := 112) rfl)) rfl
theorem w_919 : Cond.methodLink RX0 89 yX6_scanGuided ∈ y_tb := y_in (mt_4 _ (List.mem_of_getElem? (i := 114) rfl)) rfl
theorem w_920 : Cond.instanceMethod yX6_scanGuided ∈ y_tb := y_in (mt_4 _ (List.mem_of_getElem? (i := 115) rfl)) rfl
theorem w_921 : Cond.selects RX6 yX6_scanGuided yX6_scanGuided ∈ y_tb := y_in (mt_4 _ (List.mem_of_getElem? (i := 116) rfl)) rfl
theorem w_922 : Cond.code yX6_scanGuided cX6_scanGuided 7 none ∈ y_tb := y_in (mt_4 _ (List.mem_of_getElem? (i := 117) rfl)) rfl
theorem w_923 : Cond.methodLink RX6 147 yX4_has ∈ y_tb := y_in (mt_4 _ (List.mem_of_getElem? (i := 118) rfl)) rfl
theorem w_924 : Cond.methodLink RX6 153 yX4_xOf ∈ y_tb := y_in (mt_4 _ (List.mem_of_getElem? (i := 119) rfl)) rfl
theorem w_925 : Cond.methodLink RX6 156 yX4_yOf ∈ y_tb := y_in (mt_4 _ (List.mem_of_getElem? (i := 120) rfl)) rfl
theorem w_926 : Cond.methodLink RX6 143 yX6_scan ∈ y_tb := y_in (mt_4 _ (List.mem_of_getElem? (i := 121) rfl)) rfl
theorem w_928 : Cond.instanceMethod yX6_scan ∈ y_tb := y_in (mt_4 _ (List.mem_of_getElem? (i := 123) rfl)) rfl
theorem w_929 : Cond.code yX6_scan cX6_scan 11 none ∈ y_tb := y_in (mt_4 _ (List.mem_of_getElem? (i := 124) rfl)) rfl
theorem w_930 : Cond.methodLink RX6 162 ⟨"java/lang/Math", "min", "(II)I"⟩ ∈ y_tb := y_in (mt_4 _ (List.mem_of_getElem? (i := 125) rfl)) rfl
theorem w_931 : Cond.methodLink RX6 165 ⟨"java/lang/Math", "max", "(II)I"⟩ ∈ y_tb := y_in (mt_4 _ (List.mem_of_getElem? (i := 126) rfl)) rfl
theorem w_932 : Cond.methodLink RX6 168 yX6_isWholeAndUsable ∈ y_tb := y_in (mt_4 _ (List.mem_of_getElem? (i := 127) rfl)) rfl
theorem w_933 : Cond.instanceMethod yX6_isWholeAndUsable ∈ y_tb := y_in (mt_4 _ (List.mem_of_getElem? (i := 128) rfl)) rfl
theorem w_934 : Cond.selects RX6 yX6_isWholeAndUsable yX6_isWholeAndUsable ∈ y_tb := y_in (mt_4 _ (List.mem_of_getElem? (i := 129) rfl)) rfl
theorem w_935 : Cond.code yX6_isWholeAndUsable cX6_isWholeAndUsable 8 (some .boolean) ∈ y_tb := y_in (mt_4 _ (List.mem_of_getElem? (i := 130) rfl)) rfl
theorem w_936 : Cond.methodLink RX6 171 yX6_ask ∈ y_tb := y_in (mt_4 _ (List.mem_of_getElem? (i := 131) rfl)) rfl
theorem w_938 : Cond.instanceMethod yX6_ask ∈ y_tb := y_in (mt_4 _ (List.mem_of_getElem? (i := 133) rfl)) rfl
theorem w_939 : Cond.code yX6_ask cX6_ask 5 none ∈ y_tb := y_in (mt_4 _ (List.mem_of_getElem? (i := 134) rfl)) rfl
theorem w_941 : Cond.methodLink RX6 176 yX6_compare ∈ y_tb := y_in (mt_4 _ (List.mem_of_getElem? (i := 136) rfl)) rfl
theorem w_942 : Cond.instanceMethod yX6_compare ∈ y_tb := y_in (mt_4 _ (List.mem_of_getElem? (i := 137) rfl)) rfl
theorem w_943 : Cond.selects RX6 yX6_compare yX6_compare ∈ y_tb := y_in (mt_4 _ (List.mem_of_getElem? (i := 138) rfl)) rfl
theorem w_944 : Cond.code yX6_compare cX6_compare 7 none ∈ y_tb := y_in (mt_4 _ (List.mem_of_getElem? (i := 139) rfl)) rfl
theorem w_945 : Cond.methodLink RX6 179 yX6_reckon ∈ y_tb := y_in (mt_4 _ (List.mem_of_getElem? (i := 140) rfl)) rfl
theorem w_946 : Cond.instanceMethod yX6_reckon ∈ y_tb := y_in (mt_4 _ (List.mem_of_getElem? (i := 141) rfl)) rfl
theorem w_947 : Cond.selects RX6 yX6_reckon yX6_reckon ∈ y_tb := y_in (mt_4 _ (List.mem_of_getElem? (i := 142) rfl)) rfl
theorem w_948 : Cond.code yX6_reckon cX6_reckon 8 (some .int) ∈ y_tb := y_in (mt_4 _ (List.mem_of_getElem? (i := 143) rfl)) rfl
theorem w_949 : Cond.methodLink RX0 96 yX6_scanInReach ∈ y_tb := y_in (mt_4 _ (List.mem_of_getElem? (i := 144) rfl)) rfl
theorem w_950 : Cond.instanceMethod yX6_scanInReach ∈ y_tb := y_in (mt_4 _ (List.mem_of_getElem? (i := 145) rfl)) rfl
theorem w_951 : Cond.selects RX6 yX6_scanInReach yX6_scanInReach ∈ y_tb := y_in (mt_4 _ (List.mem_of_getElem? (i := 146) rfl)) rfl
theorem w_952 : Cond.code yX6_scanInReach cX6_scanInReach 2 none ∈ y_tb := y_in (mt_4 _ (List.mem_of_getElem? (i := 147) rfl)) rfl
theorem w_953 : Cond.methodLink RX0 102 yX0_copyPatch ∈ y_tb := y_in (mt_4 _ (List.mem_of_getElem? (i := 148) rfl)) rfl
theorem w_955 : Cond.instanceMethod yX0_copyPatch ∈ y_tb := y_in (mt_4 _ (List.mem_of_getElem? (i := 150) rfl)) rfl
theorem w_956 : Cond.code yX0_copyPatch cX0_copyPatch 13 (some .int) ∈ y_tb := y_in (mt_4 _ (List.mem_of_getElem? (i := 151) rfl)) rfl
theorem w_957 : Cond.methodLink RX0 124 yX4_isMissing ∈ y_tb := y_in (mt_4 _ (List.mem_of_getElem? (i := 152) rfl)) rfl
theorem w_958 : Cond.methodLink RX0 131 yX6_placeStep ∈ y_tb := y_in (mt_4 _ (List.mem_of_getElem? (i := 153) rfl)) rfl
theorem w_959 : Cond.methodLink RX0 141 ⟨"java/lang/Math", "min", "(II)I"⟩ ∈ y_tb := y_in (mt_4 _ (List.mem_of_getElem? (i := 154) rfl)) rfl
theorem w_960 : Cond.methodLink RX0 147 ⟨"java/lang/Math", "max", "(II)I"⟩ ∈ y_tb := y_in (mt_4 _ (List.mem_of_getElem? (i := 155) rfl)) rfl
theorem w_961 : Cond.methodLink RX0 150 yX4_at ∈ y_tb := y_in (mt_4 _ (List.mem_of_getElem? (i := 156) rfl)) rfl
theorem w_962 : Cond.methodLink RX0 153 yX4_fillIn ∈ y_tb := y_in (mt_4 _ (List.mem_of_getElem? (i := 157) rfl)) rfl
theorem w_963 : Cond.instanceMethod yX4_fillIn ∈ y_tb := y_in (mt_4 _ (List.mem_of_getElem? (i := 158) rfl)) rfl
theorem w_964 : Cond.selects RX4 yX4_fillIn yX4_fillIn ∈ y_tb := y_in (mt_4 _ (List.mem_of_getElem? (i := 159) rfl)) rfl
theorem w_965 : Cond.code yX4_fillIn cX4_fillIn 6 none ∈ y_tb := y_in (mt_4 _ (List.mem_of_getElem? (i := 160) rfl)) rfl
theorem w_966 : Cond.methodLink RX0 109 yX2_record ∈ y_tb := y_in (mt_4 _ (List.mem_of_getElem? (i := 161) rfl)) rfl
theorem w_967 : Cond.instanceMethod yX2_record ∈ y_tb := y_in (mt_4 _ (List.mem_of_getElem? (i := 162) rfl)) rfl
theorem w_968 : Cond.selects RX2 yX2_record yX2_record ∈ y_tb := y_in (mt_4 _ (List.mem_of_getElem? (i := 163) rfl)) rfl
theorem w_969 : Cond.code yX2_record cX2_record 6 none ∈ y_tb := y_in (mt_4 _ (List.mem_of_getElem? (i := 164) rfl)) rfl
theorem w_970 : Cond.methodLink RX2 40 yX4_xOf ∈ y_tb := y_in (mt_4 _ (List.mem_of_getElem? (i := 165) rfl)) rfl
theorem w_971 : Cond.methodLink RX2 46 yX4_yOf ∈ y_tb := y_in (mt_4 _ (List.mem_of_getElem? (i := 166) rfl)) rfl
theorem w_972 : Cond.methodLink RL 134 yL_guide ∈ y_tb := y_in (mt_4 _ (List.mem_of_getElem? (i := 167) rfl)) rfl
theorem w_973 : Cond.static yL_guide ∈ y_tb := y_in (mt_4 _ (List.mem_of_getElem? (i := 168) rfl)) rfl
theorem w_975 : Cond.methodLink RL 32 yX10_guide ∈ y_tb := y_in (mt_4 _ (List.mem_of_getElem? (i := 170) rfl)) rfl
theorem w_976 : Cond.instanceMethod yX10_guide ∈ y_tb := y_in (mt_4 _ (List.mem_of_getElem? (i := 171) rfl)) rfl
theorem w_977 : Cond.selects RX10 yX10_guide yX10_guide ∈ y_tb := y_in (mt_4 _ (List.mem_of_getElem? (i := 172) rfl)) rfl
theorem w_978 : Cond.code yX10_guide cX10_guide 2 (some .int) ∈ y_tb := y_in (mt_4 _ (List.mem_of_getElem? (i := 173) rfl)) rfl
theorem w_979 : Cond.methodLink RL 141 yL_told ∈ y_tb := y_in (mt_4 _ (List.mem_of_getElem? (i := 174) rfl)) rfl
theorem w_980 : Cond.static yL_told ∈ y_tb := y_in (mt_4 _ (List.mem_of_getElem? (i := 175) rfl)) rfl
theorem w_982 : Cond.methodLink RL 35 yX10_told ∈ y_tb := y_in (mt_4 _ (List.mem_of_getElem? (i := 177) rfl)) rfl
theorem w_983 : Cond.instanceMethod yX10_told ∈ y_tb := y_in (mt_4 _ (List.mem_of_getElem? (i := 178) rfl)) rfl
theorem w_984 : Cond.selects RX10 yX10_told yX10_told ∈ y_tb := y_in (mt_4 _ (List.mem_of_getElem? (i := 179) rfl)) rfl
theorem w_985 : Cond.code yX10_told cX10_told 2 (some .int) ∈ y_tb := y_in (mt_4 _ (List.mem_of_getElem? (i := 180) rfl)) rfl
theorem w_986 : Cond.methodLink RX10 192 yX4_countFilledIn ∈ y_tb := y_in (mt_4 _ (List.mem_of_getElem? (i := 181) rfl)) rfl
theorem w_987 : Cond.instanceMethod yX4_countFilledIn ∈ y_tb := y_in (mt_4 _ (List.mem_of_getElem? (i := 182) rfl)) rfl
theorem w_988 : Cond.selects RX4 yX4_countFilledIn yX4_countFilledIn ∈ y_tb := y_in (mt_4 _ (List.mem_of_getElem? (i := 183) rfl)) rfl
theorem w_989 : Cond.code yX4_countFilledIn cX4_countFilledIn 3 (some .int) ∈ y_tb := y_in (mt_4 _ (List.mem_of_getElem? (i := 184) rfl)) rfl
theorem w_990 : Cond.methodLink RX10 195 yX10_countFront ∈ y_tb := y_in (mt_4 _ (List.mem_of_getElem? (i := 185) rfl)) rfl
theorem w_992 : Cond.instanceMethod yX10_countFront ∈ y_tb := y_in (mt_4 _ (List.mem_of_getElem? (i := 187) rfl)) rfl
theorem w_993 : Cond.code yX10_countFront cX10_countFront 3 (some .int) ∈ y_tb := y_in (mt_4 _ (List.mem_of_getElem? (i := 188) rfl)) rfl
theorem w_994 : Cond.methodLink RX10 242 yX4_xOf ∈ y_tb := y_in (mt_4 _ (List.mem_of_getElem? (i := 189) rfl)) rfl
theorem w_995 : Cond.methodLink RX10 245 yX4_yOf ∈ y_tb := y_in (mt_4 _ (List.mem_of_getElem? (i := 190) rfl)) rfl
theorem w_996 : Cond.methodLink RX10 254 yX4_isOnFront ∈ y_tb := y_in (mt_4 _ (List.mem_of_getElem? (i := 191) rfl)) rfl
theorem w_997 : Cond.methodLink RX10 198 yX3_number ∈ y_tb := y_in (mt_4 _ (List.mem_of_getElem? (i := 192) rfl)) rfl
theorem w_998 : Cond.instanceMethod yX3_number ∈ y_tb := y_in (mt_4 _ (List.mem_of_getElem? (i := 193) rfl)) rfl
theorem w_999 : Cond.selects RX3 yX3_number yX3_number ∈ y_tb := y_in (mt_4 _ (List.mem_of_getElem? (i := 194) rfl)) rfl
theorem w_1000 : Cond.code yX3_number cX3_number 4 (some .int) ∈ y_tb := y_in (mt_4 _ (List.mem_of_getElem? (i := 195) rfl)) rfl
theorem w_1001 : Cond.methodLink RX3 22 ⟨"java/util/Arrays", "fill", "([II)V"⟩ ∈ y_tb := y_in (mt_4 _ (List.mem_of_getElem? (i := 196) rfl)) rfl
theorem w_1002 : Cond.methodLink RX3 28 yX4_dots ∈ y_tb := y_in (mt_4 _ (List.mem_of_getElem? (i := 197) rfl)) rfl
theorem w_1003 : Cond.methodLink RX3 37 yX3_spread ∈ y_tb := y_in (mt_4 _ (List.mem_of_getElem? (i := 198) rfl)) rfl
theorem w_1005 : Cond.instanceMethod yX3_spread ∈ y_tb := y_in (mt_4 _ (List.mem_of_getElem? (i := 200) rfl)) rfl
theorem w_1006 : Cond.code yX3_spread cX3_spread 10 none ∈ y_tb := y_in (mt_4 _ (List.mem_of_getElem? (i := 201) rfl)) rfl
theorem w_1007 : Cond.methodLink RX3 41 yX3_join ∈ y_tb := y_in (mt_4 _ (List.mem_of_getElem? (i := 202) rfl)) rfl
theorem w_1009 : Cond.instanceMethod yX3_join ∈ y_tb := y_in (mt_4 _ (List.mem_of_getElem? (i := 204) rfl)) rfl
theorem w_1010 : Cond.code yX3_join cX3_join 3 none ∈ y_tb := y_in (mt_4 _ (List.mem_of_getElem? (i := 205) rfl)) rfl
theorem w_1011 : Cond.methodLink RX3 45 yX4_xOf ∈ y_tb := y_in (mt_4 _ (List.mem_of_getElem? (i := 206) rfl)) rfl
theorem w_1012 : Cond.methodLink RX3 49 yX4_yOf ∈ y_tb := y_in (mt_4 _ (List.mem_of_getElem? (i := 207) rfl)) rfl
theorem w_1013 : Cond.fieldLinkNest RX3 52 "FilledHoles" "STEP_X" "[I" "FilledHoles" ∈ y_nw := y_inN (mt_4 _ (List.mem_of_getElem? (i := 208) rfl)) rfl
theorem w_1015 : Cond.fieldLinkNest RX3 55 "FilledHoles" "STEP_Y" "[I" "FilledHoles" ∈ y_nw := y_inN (mt_4 _ (List.mem_of_getElem? (i := 210) rfl)) rfl
theorem w_1017 : Cond.methodLink RX3 58 yX4_isMissing ∈ y_tb := y_in (mt_4 _ (List.mem_of_getElem? (i := 212) rfl)) rfl
theorem w_1018 : Cond.methodLink RX3 62 yX4_at ∈ y_tb := y_in (mt_4 _ (List.mem_of_getElem? (i := 213) rfl)) rfl
theorem w_1019 : Cond.methodLink RL 144 yL_dot ∈ y_tb := y_in (mt_4 _ (List.mem_of_getElem? (i := 214) rfl)) rfl
theorem w_1020 : Cond.static yL_dot ∈ y_tb := y_in (mt_4 _ (List.mem_of_getElem? (i := 215) rfl)) rfl
theorem w_1022 : Cond.methodLink RL 38 yX10_dot ∈ y_tb := y_in (mt_4 _ (List.mem_of_getElem? (i := 217) rfl)) rfl
theorem w_1023 : Cond.instanceMethod yX10_dot ∈ y_tb := y_in (mt_4 _ (List.mem_of_getElem? (i := 218) rfl)) rfl
theorem w_1024 : Cond.selects RX10 yX10_dot yX10_dot ∈ y_tb := y_in (mt_4 _ (List.mem_of_getElem? (i := 219) rfl)) rfl
theorem w_1025 : Cond.code yX10_dot cX10_dot 5 (some .int) ∈ y_tb := y_in (mt_4 _ (List.mem_of_getElem? (i := 220) rfl)) rfl
theorem w_1026 : Cond.methodLink RL 147 yL_rank ∈ y_tb := y_in (mt_4 _ (List.mem_of_getElem? (i := 221) rfl)) rfl
theorem w_1027 : Cond.static yL_rank ∈ y_tb := y_in (mt_4 _ (List.mem_of_getElem? (i := 222) rfl)) rfl
theorem w_1029 : Cond.methodLink RL 41 yX10_rank ∈ y_tb := y_in (mt_4 _ (List.mem_of_getElem? (i := 224) rfl)) rfl
theorem w_1030 : Cond.instanceMethod yX10_rank ∈ y_tb := y_in (mt_4 _ (List.mem_of_getElem? (i := 225) rfl)) rfl
theorem w_1031 : Cond.selects RX10 yX10_rank yX10_rank ∈ y_tb := y_in (mt_4 _ (List.mem_of_getElem? (i := 226) rfl)) rfl
theorem w_1032 : Cond.code yX10_rank cX10_rank 4 (some .int) ∈ y_tb := y_in (mt_4 _ (List.mem_of_getElem? (i := 227) rfl)) rfl
theorem w_1033 : Cond.methodLink RX10 257 yX4_isMissing ∈ y_tb := y_in (mt_4 _ (List.mem_of_getElem? (i := 228) rfl)) rfl
theorem w_1034 : Cond.methodLink RX10 260 yX5_measure ∈ y_tb := y_in (mt_4 _ (List.mem_of_getElem? (i := 229) rfl)) rfl
theorem w_1035 : Cond.methodLink RL 150 yL_next ∈ y_tb := y_in (mt_4 _ (List.mem_of_getElem? (i := 230) rfl)) rfl
theorem w_1036 : Cond.static yL_next ∈ y_tb := y_in (mt_4 _ (List.mem_of_getElem? (i := 231) rfl)) rfl
theorem w_1038 : Cond.methodLink RL 44 yX10_next ∈ y_tb := y_in (mt_4 _ (List.mem_of_getElem? (i := 233) rfl)) rfl
theorem w_1039 : Cond.instanceMethod yX10_next ∈ y_tb := y_in (mt_4 _ (List.mem_of_getElem? (i := 234) rfl)) rfl
theorem w_1040 : Cond.selects RX10 yX10_next yX10_next ∈ y_tb := y_in (mt_4 _ (List.mem_of_getElem? (i := 235) rfl)) rfl
theorem w_1041 : Cond.code yX10_next cX10_next 4 (some .int) ∈ y_tb := y_in (mt_4 _ (List.mem_of_getElem? (i := 236) rfl)) rfl
theorem w_1042 : Cond.methodLink RX10 285 yX5_lineUp ∈ y_tb := y_in (mt_4 _ (List.mem_of_getElem? (i := 237) rfl)) rfl
theorem w_1043 : Cond.methodLink RX10 288 yX5_foremost ∈ y_tb := y_in (mt_4 _ (List.mem_of_getElem? (i := 238) rfl)) rfl
theorem w_1044 : Cond.methodLink RX10 294 yX10_frontAnswer ∈ y_tb := y_in (mt_4 _ (List.mem_of_getElem? (i := 239) rfl)) rfl
theorem w_1046 : Cond.instanceMethod yX10_frontAnswer ∈ y_tb := y_in (mt_5 _ (List.mem_of_getElem? (i := 1) rfl)) rfl
theorem w_1047 : Cond.code yX10_frontAnswer cX10_frontAnswer 4 (some .int) ∈ y_tb := y_in (mt_5 _ (List.mem_of_getElem? (i := 2) rfl)) rfl
theorem w_1048 : Cond.methodLink RX10 297 yX6_aim ∈ y_tb := y_in (mt_5 _ (List.mem_of_getElem? (i := 3) rfl)) rfl
theorem w_1049 : Cond.methodLink RX10 300 yX6_scanInReach ∈ y_tb := y_in (mt_5 _ (List.mem_of_getElem? (i := 4) rfl)) rfl
theorem w_1050 : Cond.methodLink RL 153 yL_search ∈ y_tb := y_in (mt_5 _ (List.mem_of_getElem? (i := 5) rfl)) rfl
theorem w_1051 : Cond.static yL_search ∈ y_tb := y_in (mt_5 _ (List.mem_of_getElem? (i := 6) rfl)) rfl
theorem w_1053 : Cond.methodLink RL 47 yX10_search ∈ y_tb := y_in (mt_5 _ (List.mem_of_getElem? (i := 8) rfl)) rfl
theorem w_1054 : Cond.instanceMethod yX10_search ∈ y_tb := y_in (mt_5 _ (List.mem_of_getElem? (i := 9) rfl)) rfl
theorem w_1055 : Cond.selects RX10 yX10_search yX10_search ∈ y_tb := y_in (mt_5 _ (List.mem_of_getElem? (i := 10) rfl)) rfl
theorem w_1056 : Cond.code yX10_search cX10_search 4 (some .int) ∈ y_tb := y_in (mt_5 _ (List.mem_of_getElem? (i := 11) rfl)) rfl
theorem w_1057 : Cond.methodLink RL 156 yL_difference ∈ y_tb := y_in (mt_5 _ (List.mem_of_getElem? (i := 12) rfl)) rfl
theorem w_1058 : Cond.static yL_difference ∈ y_tb := y_in (mt_5 _ (List.mem_of_getElem? (i := 13) rfl)) rfl
theorem w_1060 : Cond.methodLink RL 50 yX10_difference ∈ y_tb := y_in (mt_5 _ (List.mem_of_getElem? (i := 15) rfl)) rfl
theorem w_1061 : Cond.instanceMethod yX10_difference ∈ y_tb := y_in (mt_5 _ (List.mem_of_getElem? (i := 16) rfl)) rfl
theorem w_1062 : Cond.selects RX10 yX10_difference yX10_difference ∈ y_tb := y_in (mt_5 _ (List.mem_of_getElem? (i := 17) rfl)) rfl
theorem w_1063 : Cond.code yX10_difference cX10_difference 8 (some .int) ∈ y_tb := y_in (mt_5 _ (List.mem_of_getElem? (i := 18) rfl)) rfl
theorem w_1064 : Cond.methodLink RX10 327 yX6_reaches ∈ y_tb := y_in (mt_5 _ (List.mem_of_getElem? (i := 19) rfl)) rfl
theorem w_1065 : Cond.instanceMethod yX6_reaches ∈ y_tb := y_in (mt_5 _ (List.mem_of_getElem? (i := 20) rfl)) rfl
theorem w_1066 : Cond.selects RX6 yX6_reaches yX6_reaches ∈ y_tb := y_in (mt_5 _ (List.mem_of_getElem? (i := 21) rfl)) rfl
theorem w_1067 : Cond.code yX6_reaches cX6_reaches 3 (some .boolean) ∈ y_tb := y_in (mt_5 _ (List.mem_of_getElem? (i := 22) rfl)) rfl
theorem w_1068 : Cond.methodLink RX6 134 ⟨"java/lang/Math", "abs", "(I)I"⟩ ∈ y_tb := y_in (mt_5 _ (List.mem_of_getElem? (i := 23) rfl)) rfl
theorem w_1069 : Cond.methodLink RX10 330 yX6_isWholeAndUsable ∈ y_tb := y_in (mt_5 _ (List.mem_of_getElem? (i := 24) rfl)) rfl
theorem w_1070 : Cond.methodLink RX10 333 yX6_compare ∈ y_tb := y_in (mt_5 _ (List.mem_of_getElem? (i := 25) rfl)) rfl
theorem w_1072 : Cond.methodLink RX10 340 yX6_reckon ∈ y_tb := y_in (mt_5 _ (List.mem_of_getElem? (i := 27) rfl)) rfl
theorem w_1073 : Cond.methodLink RL 160 yL_front ∈ y_tb := y_in (mt_5 _ (List.mem_of_getElem? (i := 28) rfl)) rfl
theorem w_1074 : Cond.static yL_front ∈ y_tb := y_in (mt_5 _ (List.mem_of_getElem? (i := 29) rfl)) rfl
theorem w_1076 : Cond.methodLink RL 54 yX10_front ∈ y_tb := y_in (mt_5 _ (List.mem_of_getElem? (i := 31) rfl)) rfl
theorem w_1077 : Cond.instanceMethod yX10_front ∈ y_tb := y_in (mt_5 _ (List.mem_of_getElem? (i := 32) rfl)) rfl
theorem w_1078 : Cond.selects RX10 yX10_front yX10_front ∈ y_tb := y_in (mt_5 _ (List.mem_of_getElem? (i := 33) rfl)) rfl
theorem w_1079 : Cond.code yX10_front cX10_front 4 (some .int) ∈ y_tb := y_in (mt_5 _ (List.mem_of_getElem? (i := 34) rfl)) rfl
theorem w_1080 : Cond.methodLink RX10 344 yX5_placeOf ∈ y_tb := y_in (mt_5 _ (List.mem_of_getElem? (i := 35) rfl)) rfl
theorem w_1081 : Cond.instanceMethod yX5_placeOf ∈ y_tb := y_in (mt_5 _ (List.mem_of_getElem? (i := 36) rfl)) rfl
theorem w_1082 : Cond.selects RX5 yX5_placeOf yX5_placeOf ∈ y_tb := y_in (mt_5 _ (List.mem_of_getElem? (i := 37) rfl)) rfl
theorem w_1083 : Cond.code yX5_placeOf cX5_placeOf 5 (some .int) ∈ y_tb := y_in (mt_5 _ (List.mem_of_getElem? (i := 38) rfl)) rfl
theorem w_1084 : Cond.methodLink RL 163 yL_part ∈ y_tb := y_in (mt_5 _ (List.mem_of_getElem? (i := 39) rfl)) rfl
theorem w_1085 : Cond.static yL_part ∈ y_tb := y_in (mt_5 _ (List.mem_of_getElem? (i := 40) rfl)) rfl
theorem w_1087 : Cond.methodLink RL 57 yX10_part ∈ y_tb := y_in (mt_5 _ (List.mem_of_getElem? (i := 42) rfl)) rfl
theorem w_1088 : Cond.instanceMethod yX10_part ∈ y_tb := y_in (mt_5 _ (List.mem_of_getElem? (i := 43) rfl)) rfl
theorem w_1089 : Cond.selects RX10 yX10_part yX10_part ∈ y_tb := y_in (mt_5 _ (List.mem_of_getElem? (i := 44) rfl)) rfl
theorem w_1090 : Cond.code yX10_part cX10_part 12 (some .int) ∈ y_tb := y_in (mt_5 _ (List.mem_of_getElem? (i := 45) rfl)) rfl
theorem w_1091 : Cond.methodLink RX10 347 yX10_demandPart ∈ y_tb := y_in (mt_5 _ (List.mem_of_getElem? (i := 46) rfl)) rfl
theorem w_1093 : Cond.instanceMethod yX10_demandPart ∈ y_tb := y_in (mt_5 _ (List.mem_of_getElem? (i := 48) rfl)) rfl
theorem w_1094 : Cond.code yX10_demandPart cX10_demandPart 3 none ∈ y_tb := y_in (mt_5 _ (List.mem_of_getElem? (i := 49) rfl)) rfl
theorem w_1095 : Cond.methodLink RX10 350 ⟨"java/lang/Math", "min", "(II)I"⟩ ∈ y_tb := y_in (mt_5 _ (List.mem_of_getElem? (i := 50) rfl)) rfl
theorem w_1096 : Cond.methodLink RX10 355 ⟨"java/lang/Math", "max", "(II)I"⟩ ∈ y_tb := y_in (mt_5 _ (List.mem_of_getElem? (i := 51) rfl)) rfl
theorem w_1097 : Cond.methodLink RL 166 yL_ring ∈ y_tb := y_in (mt_5 _ (List.mem_of_getElem? (i := 52) rfl)) rfl
theorem w_1098 : Cond.static yL_ring ∈ y_tb := y_in (mt_5 _ (List.mem_of_getElem? (i := 53) rfl)) rfl
theorem w_1100 : Cond.methodLink RL 60 yX10_ring ∈ y_tb := y_in (mt_5 _ (List.mem_of_getElem? (i := 55) rfl)) rfl
theorem w_1101 : Cond.instanceMethod yX10_ring ∈ y_tb := y_in (mt_5 _ (List.mem_of_getElem? (i := 56) rfl)) rfl
theorem w_1102 : Cond.selects RX10 yX10_ring yX10_ring ∈ y_tb := y_in (mt_5 _ (List.mem_of_getElem? (i := 57) rfl)) rfl
theorem w_1103 : Cond.code yX10_ring cX10_ring 9 (some .int) ∈ y_tb := y_in (mt_5 _ (List.mem_of_getElem? (i := 58) rfl)) rfl
theorem w_1104 : Cond.methodLink RX10 358 yX3_isBeside ∈ y_tb := y_in (mt_5 _ (List.mem_of_getElem? (i := 59) rfl)) rfl
theorem w_1105 : Cond.instanceMethod yX3_isBeside ∈ y_tb := y_in (mt_5 _ (List.mem_of_getElem? (i := 60) rfl)) rfl
theorem w_1106 : Cond.selects RX3 yX3_isBeside yX3_isBeside ∈ y_tb := y_in (mt_5 _ (List.mem_of_getElem? (i := 61) rfl)) rfl
theorem w_1107 : Cond.code yX3_isBeside cX3_isBeside 8 (some .boolean) ∈ y_tb := y_in (mt_5 _ (List.mem_of_getElem? (i := 62) rfl)) rfl
theorem w_1108 : Cond.methodLink RX3 66 yX4_has ∈ y_tb := y_in (mt_5 _ (List.mem_of_getElem? (i := 63) rfl)) rfl
theorem w_1109 : Cond.methodLink RL 169 yL_log ∈ y_tb := y_in (mt_5 _ (List.mem_of_getElem? (i := 64) rfl)) rfl
theorem w_1110 : Cond.static yL_log ∈ y_tb := y_in (mt_5 _ (List.mem_of_getElem? (i := 65) rfl)) rfl
theorem w_1112 : Cond.methodLink RL 63 yX10_log ∈ y_tb := y_in (mt_5 _ (List.mem_of_getElem? (i := 67) rfl)) rfl
theorem w_1113 : Cond.instanceMethod yX10_log ∈ y_tb := y_in (mt_5 _ (List.mem_of_getElem? (i := 68) rfl)) rfl
theorem w_1114 : Cond.selects RX10 yX10_log yX10_log ∈ y_tb := y_in (mt_5 _ (List.mem_of_getElem? (i := 69) rfl)) rfl
theorem w_1115 : Cond.code yX10_log cX10_log 3 (some .int) ∈ y_tb := y_in (mt_5 _ (List.mem_of_getElem? (i := 70) rfl)) rfl
theorem w_1116 : Cond.methodLink RX10 362 yX2_kept ∈ y_tb := y_in (mt_5 _ (List.mem_of_getElem? (i := 71) rfl)) rfl
theorem w_1117 : Cond.instanceMethod yX2_kept ∈ y_tb := y_in (mt_5 _ (List.mem_of_getElem? (i := 72) rfl)) rfl
theorem w_1118 : Cond.selects RX2 yX2_kept yX2_kept ∈ y_tb := y_in (mt_5 _ (List.mem_of_getElem? (i := 73) rfl)) rfl
theorem w_1119 : Cond.code yX2_kept cX2_kept 1 (some .int) ∈ y_tb := y_in (mt_5 _ (List.mem_of_getElem? (i := 74) rfl)) rfl
theorem w_1120 : Cond.methodLink RX2 23 ⟨"java/lang/Math", "min", "(II)I"⟩ ∈ y_tb := y_in (mt_5 _ (List.mem_of_getElem? (i := 75) rfl)) rfl
theorem w_1121 : Cond.methodLink RX10 368 yX2_entry ∈ y_tb := y_in (mt_5 _ (List.mem_of_getElem? (i := 76) rfl)) rfl
theorem w_1122 : Cond.instanceMethod yX2_entry ∈ y_tb := y_in (mt_5 _ (List.mem_of_getElem? (i := 77) rfl)) rfl
theorem w_1123 : Cond.selects RX2 yX2_entry yX2_entry ∈ y_tb := y_in (mt_5 _ (List.mem_of_getElem? (i := 78) rfl)) rfl
theorem w_1124 : Cond.code yX2_entry cX2_entry 3 (some .int) ∈ y_tb := y_in (mt_5 _ (List.mem_of_getElem? (i := 79) rfl)) rfl
theorem w_1125 : Cond.methodLink RX2 58 yX2_kept ∈ y_tb := y_in (mt_5 _ (List.mem_of_getElem? (i := 80) rfl)) rfl
theorem w_1126 : Cond.methodLink RL 172 yL_half ∈ y_tb := y_in (mt_5 _ (List.mem_of_getElem? (i := 81) rfl)) rfl
theorem w_1127 : Cond.static yL_half ∈ y_tb := y_in (mt_5 _ (List.mem_of_getElem? (i := 82) rfl)) rfl
theorem w_1129 : Cond.methodLink RL 66 yX10_half ∈ y_tb := y_in (mt_5 _ (List.mem_of_getElem? (i := 84) rfl)) rfl
theorem w_1130 : Cond.instanceMethod yX10_half ∈ y_tb := y_in (mt_5 _ (List.mem_of_getElem? (i := 85) rfl)) rfl
theorem w_1131 : Cond.selects RX10 yX10_half yX10_half ∈ y_tb := y_in (mt_5 _ (List.mem_of_getElem? (i := 86) rfl)) rfl
theorem w_1132 : Cond.code yX10_half cX10_half 5 (some .int) ∈ y_tb := y_in (mt_5 _ (List.mem_of_getElem? (i := 87) rfl)) rfl
theorem w_1133 : Cond.methodLink RX10 371 yX0_makeHalves ∈ y_tb := y_in (mt_5 _ (List.mem_of_getElem? (i := 88) rfl)) rfl
theorem w_1134 : Cond.methodLink RL 175 yL_ahead ∈ y_tb := y_in (mt_5 _ (List.mem_of_getElem? (i := 89) rfl)) rfl
theorem w_1135 : Cond.static yL_ahead ∈ y_tb := y_in (mt_5 _ (List.mem_of_getElem? (i := 90) rfl)) rfl
theorem w_1137 : Cond.methodLink RL 69 yX10_ahead ∈ y_tb := y_in (mt_5 _ (List.mem_of_getElem? (i := 92) rfl)) rfl
theorem w_1138 : Cond.instanceMethod yX10_ahead ∈ y_tb := y_in (mt_5 _ (List.mem_of_getElem? (i := 93) rfl)) rfl
theorem w_1139 : Cond.selects RX10 yX10_ahead yX10_ahead ∈ y_tb := y_in (mt_5 _ (List.mem_of_getElem? (i := 94) rfl)) rfl
theorem w_1140 : Cond.code yX10_ahead cX10_ahead 3 (some .int) ∈ y_tb := y_in (mt_5 _ (List.mem_of_getElem? (i := 95) rfl)) rfl
theorem w_1141 : Cond.methodLink RX10 384 yX10_startTrial ∈ y_tb := y_in (mt_5 _ (List.mem_of_getElem? (i := 96) rfl)) rfl
theorem w_1143 : Cond.instanceMethod yX10_startTrial ∈ y_tb := y_in (mt_5 _ (List.mem_of_getElem? (i := 98) rfl)) rfl
theorem w_1144 : Cond.code yX10_startTrial cX10_startTrial 1 none ∈ y_tb := y_in (mt_5 _ (List.mem_of_getElem? (i := 99) rfl)) rfl
theorem w_1145 : Cond.methodLink RX10 394 yX7_copyFrom ∈ y_tb := y_in (mt_5 _ (List.mem_of_getElem? (i := 100) rfl)) rfl
theorem w_1146 : Cond.instanceMethod yX7_copyFrom ∈ y_tb := y_in (mt_5 _ (List.mem_of_getElem? (i := 101) rfl)) rfl
theorem w_1147 : Cond.selects RX7 yX7_copyFrom yX7_copyFrom ∈ y_tb := y_in (mt_5 _ (List.mem_of_getElem? (i := 102) rfl)) rfl
theorem w_1148 : Cond.code yX7_copyFrom cX7_copyFrom 2 none ∈ y_tb := y_in (mt_5 _ (List.mem_of_getElem? (i := 103) rfl)) rfl
theorem w_1149 : Cond.methodLink RX10 390 yX10_leastSureFilledIn ∈ y_tb := y_in (mt_5 _ (List.mem_of_getElem? (i := 104) rfl)) rfl
theorem w_1150 : Cond.static yX10_leastSureFilledIn ∈ y_tb := y_in (mt_5 _ (List.mem_of_getElem? (i := 105) rfl)) rfl
theorem w_1151 : Cond.code yX10_leastSureFilledIn cX10_leastSureFilledIn 3 (some .int) ∈ y_tb := y_in (mt_5 _ (List.mem_of_getElem? (i := 106) rfl)) rfl
theorem w_1152 : Cond.methodLink RL 182 yL_flawBy ∈ y_tb := y_in (mt_5 _ (List.mem_of_getElem? (i := 107) rfl)) rfl
theorem w_1153 : Cond.static yL_flawBy ∈ y_tb := y_in (mt_5 _ (List.mem_of_getElem? (i := 108) rfl)) rfl
theorem w_1155 : Cond.methodLink RL 72 yX10_flawBy ∈ y_tb := y_in (mt_5 _ (List.mem_of_getElem? (i := 110) rfl)) rfl
theorem w_1156 : Cond.instanceMethod yX10_flawBy ∈ y_tb := y_in (mt_5 _ (List.mem_of_getElem? (i := 111) rfl)) rfl
theorem w_1157 : Cond.selects RX10 yX10_flawBy yX10_flawBy ∈ y_tb := y_in (mt_5 _ (List.mem_of_getElem? (i := 112) rfl)) rfl
theorem w_1158 : Cond.code yX10_flawBy cX10_flawBy 2 (some .int) ∈ y_tb := y_in (mt_5 _ (List.mem_of_getElem? (i := 113) rfl)) rfl
theorem w_1160 : Cond.methodLink RL 185 yL_tune ∈ y_tb := y_in (mt_5 _ (List.mem_of_getElem? (i := 115) rfl)) rfl
theorem w_1161 : Cond.static yL_tune ∈ y_tb := y_in (mt_5 _ (List.mem_of_getElem? (i := 116) rfl)) rfl
theorem w_1163 : Cond.methodLink RL 75 yX10_tune ∈ y_tb := y_in (mt_5 _ (List.mem_of_getElem? (i := 118) rfl)) rfl
theorem w_1164 : Cond.instanceMethod yX10_tune ∈ y_tb := y_in (mt_5 _ (List.mem_of_getElem? (i := 119) rfl)) rfl
theorem w_1165 : Cond.selects RX10 yX10_tune yX10_tune ∈ y_tb := y_in (mt_5 _ (List.mem_of_getElem? (i := 120) rfl)) rfl
theorem w_1166 : Cond.code yX10_tune cX10_tune 8 (some .int) ∈ y_tb := y_in (mt_5 _ (List.mem_of_getElem? (i := 121) rfl)) rfl
theorem w_1167 : Cond.methodLink RL 188 yL_reach ∈ y_tb := y_in (mt_5 _ (List.mem_of_getElem? (i := 122) rfl)) rfl
theorem w_1168 : Cond.static yL_reach ∈ y_tb := y_in (mt_5 _ (List.mem_of_getElem? (i := 123) rfl)) rfl
theorem w_1170 : Cond.methodLink RL 78 yX10_reach ∈ y_tb := y_in (mt_5 _ (List.mem_of_getElem? (i := 125) rfl)) rfl
theorem w_1171 : Cond.instanceMethod yX10_reach ∈ y_tb := y_in (mt_5 _ (List.mem_of_getElem? (i := 126) rfl)) rfl
theorem w_1172 : Cond.selects RX10 yX10_reach yX10_reach ∈ y_tb := y_in (mt_5 _ (List.mem_of_getElem? (i := 127) rfl)) rfl
theorem w_1173 : Cond.code yX10_reach cX10_reach 4 (some .int) ∈ y_tb := y_in (mt_5 _ (List.mem_of_getElem? (i := 128) rfl)) rfl
theorem w_1174 : Cond.methodLink RX10 397 yX6_leastReachOfAny ∈ y_tb := y_in (mt_5 _ (List.mem_of_getElem? (i := 129) rfl)) rfl
theorem w_1175 : Cond.instanceMethod yX6_leastReachOfAny ∈ y_tb := y_in (mt_5 _ (List.mem_of_getElem? (i := 130) rfl)) rfl
theorem w_1176 : Cond.selects RX6 yX6_leastReachOfAny yX6_leastReachOfAny ∈ y_tb := y_in (mt_5 _ (List.mem_of_getElem? (i := 131) rfl)) rfl
theorem w_1177 : Cond.code yX6_leastReachOfAny cX6_leastReachOfAny 3 (some .int) ∈ y_tb := y_in (mt_5 _ (List.mem_of_getElem? (i := 132) rfl)) rfl
theorem w_1178 : Cond.methodLink RX6 185 yX4_dots ∈ y_tb := y_in (mt_5 _ (List.mem_of_getElem? (i := 133) rfl)) rfl
theorem w_1179 : Cond.methodLink RX6 189 yX6_reachTo ∈ y_tb := y_in (mt_5 _ (List.mem_of_getElem? (i := 134) rfl)) rfl
theorem w_1180 : Cond.instanceMethod yX6_reachTo ∈ y_tb := y_in (mt_5 _ (List.mem_of_getElem? (i := 135) rfl)) rfl
theorem w_1181 : Cond.selects RX6 yX6_reachTo yX6_reachTo ∈ y_tb := y_in (mt_5 _ (List.mem_of_getElem? (i := 136) rfl)) rfl
theorem w_1182 : Cond.code yX6_reachTo cX6_reachTo 4 (some .int) ∈ y_tb := y_in (mt_5 _ (List.mem_of_getElem? (i := 137) rfl)) rfl
theorem w_1183 : Cond.methodLink RX10 400 yX6_reachTo ∈ y_tb := y_in (mt_5 _ (List.mem_of_getElem? (i := 138) rfl)) rfl
theorem w_1184 : Cond.methodLink RL 191 yL_seams ∈ y_tb := y_in (mt_5 _ (List.mem_of_getElem? (i := 139) rfl)) rfl
theorem w_1185 : Cond.static yL_seams ∈ y_tb := y_in (mt_5 _ (List.mem_of_getElem? (i := 140) rfl)) rfl
theorem w_1187 : Cond.methodLink RL 81 yX10_seams ∈ y_tb := y_in (mt_5 _ (List.mem_of_getElem? (i := 142) rfl)) rfl
theorem w_1188 : Cond.instanceMethod yX10_seams ∈ y_tb := y_in (mt_5 _ (List.mem_of_getElem? (i := 143) rfl)) rfl
theorem w_1189 : Cond.selects RX10 yX10_seams yX10_seams ∈ y_tb := y_in (mt_5 _ (List.mem_of_getElem? (i := 144) rfl)) rfl
theorem w_1190 : Cond.code yX10_seams cX10_seams 10 (some .int) ∈ y_tb := y_in (mt_5 _ (List.mem_of_getElem? (i := 145) rfl)) rfl
theorem w_1191 : Cond.fieldLink RX10 403 "FilledHoles" "STEP_X" "[I" ∈ y_tb := y_in (mt_5 _ (List.mem_of_getElem? (i := 146) rfl)) rfl
theorem w_1192 : Cond.fieldLink RX10 406 "FilledHoles" "STEP_Y" "[I" ∈ y_tb := y_in (mt_5 _ (List.mem_of_getElem? (i := 147) rfl)) rfl
theorem w_1193 : Cond.methodLink RX10 409 yX10_isSeam ∈ y_tb := y_in (mt_5 _ (List.mem_of_getElem? (i := 148) rfl)) rfl
theorem w_1195 : Cond.instanceMethod yX10_isSeam ∈ y_tb := y_in (mt_5 _ (List.mem_of_getElem? (i := 150) rfl)) rfl
theorem w_1196 : Cond.code yX10_isSeam cX10_isSeam 4 (some .boolean) ∈ y_tb := y_in (mt_5 _ (List.mem_of_getElem? (i := 151) rfl)) rfl
theorem w_1197 : Cond.methodLink RX10 413 ⟨"java/lang/Math", "abs", "(I)I"⟩ ∈ y_tb := y_in (mt_5 _ (List.mem_of_getElem? (i := 152) rfl)) rfl
theorem w_1198 : Cond.methodLink RL 194 yL_favourite ∈ y_tb := y_in (mt_5 _ (List.mem_of_getElem? (i := 153) rfl)) rfl
theorem w_1199 : Cond.static yL_favourite ∈ y_tb := y_in (mt_5 _ (List.mem_of_getElem? (i := 154) rfl)) rfl
theorem w_1201 : Cond.methodLink RL 84 yX10_favourite ∈ y_tb := y_in (mt_5 _ (List.mem_of_getElem? (i := 156) rfl)) rfl
theorem w_1202 : Cond.instanceMethod yX10_favourite ∈ y_tb := y_in (mt_5 _ (List.mem_of_getElem? (i := 157) rfl)) rfl
theorem w_1203 : Cond.selects RX10 yX10_favourite yX10_favourite ∈ y_tb := y_in (mt_5 _ (List.mem_of_getElem? (i := 158) rfl)) rfl
theorem w_1204 : Cond.code yX10_favourite cX10_favourite 6 (some .int) ∈ y_tb := y_in (mt_5 _ (List.mem_of_getElem? (i := 159) rfl)) rfl
theorem w_1205 : Cond.methodLink RX10 416 yX2_countWay ∈ y_tb := y_in (mt_5 _ (List.mem_of_getElem? (i := 160) rfl)) rfl
theorem w_1206 : Cond.instanceMethod yX2_countWay ∈ y_tb := y_in (mt_5 _ (List.mem_of_getElem? (i := 161) rfl)) rfl
theorem w_1207 : Cond.selects RX2 yX2_countWay yX2_countWay ∈ y_tb := y_in (mt_5 _ (List.mem_of_getElem? (i := 162) rfl)) rfl
theorem w_1208 : Cond.code yX2_countWay cX2_countWay 4 (some .int) ∈ y_tb := y_in (mt_5 _ (List.mem_of_getElem? (i := 163) rfl)) rfl
theorem w_1209 : Cond.methodLink RX2 62 yX2_entry ∈ y_tb := y_in (mt_5 _ (List.mem_of_getElem? (i := 164) rfl)) rfl
theorem w_1210 : Cond.methodLink RL 197 yL_turning ∈ y_tb := y_in (mt_5 _ (List.mem_of_getElem? (i := 165) rfl)) rfl
theorem w_1211 : Cond.static yL_turning ∈ y_tb := y_in (mt_5 _ (List.mem_of_getElem? (i := 166) rfl)) rfl
theorem w_1213 : Cond.methodLink RL 87 yX10_turning ∈ y_tb := y_in (mt_5 _ (List.mem_of_getElem? (i := 168) rfl)) rfl
theorem w_1214 : Cond.instanceMethod yX10_turning ∈ y_tb := y_in (mt_5 _ (List.mem_of_getElem? (i := 169) rfl)) rfl
theorem w_1215 : Cond.selects RX10 yX10_turning yX10_turning ∈ y_tb := y_in (mt_5 _ (List.mem_of_getElem? (i := 170) rfl)) rfl
theorem w_1216 : Cond.code yX10_turning cX10_turning 6 (some .int) ∈ y_tb := y_in (mt_5 _ (List.mem_of_getElem? (i := 171) rfl)) rfl
theorem w_1217 : Cond.methodLink RL 200 yL_lent ∈ y_tb := y_in (mt_5 _ (List.mem_of_getElem? (i := 172) rfl)) rfl
theorem w_1218 : Cond.static yL_lent ∈ y_tb := y_in (mt_5 _ (List.mem_of_getElem? (i := 173) rfl)) rfl
theorem w_1220 : Cond.methodLink RL 90 yX10_lent ∈ y_tb := y_in (mt_5 _ (List.mem_of_getElem? (i := 175) rfl)) rfl
theorem w_1221 : Cond.instanceMethod yX10_lent ∈ y_tb := y_in (mt_5 _ (List.mem_of_getElem? (i := 176) rfl)) rfl
theorem w_1222 : Cond.selects RX10 yX10_lent yX10_lent ∈ y_tb := y_in (mt_5 _ (List.mem_of_getElem? (i := 177) rfl)) rfl
theorem w_1223 : Cond.code yX10_lent cX10_lent 7 (some .int) ∈ y_tb := y_in (mt_5 _ (List.mem_of_getElem? (i := 178) rfl)) rfl
theorem w_1224 : Cond.methodLink RL 107 yX11_thrown ∈ y_tb := y_in (mt_5 _ (List.mem_of_getElem? (i := 179) rfl)) rfl
theorem w_1225 : Cond.instanceMethod yX11_thrown ∈ y_tb := y_in (mt_5 _ (List.mem_of_getElem? (i := 180) rfl)) rfl
theorem w_1226 : Cond.selects RX11 yX11_thrown yX11_thrown ∈ y_tb := y_in (mt_5 _ (List.mem_of_getElem? (i := 181) rfl)) rfl
theorem w_1227 : Cond.code yX11_thrown cX11_thrown 1 (some .int) ∈ y_tb := y_in (mt_5 _ (List.mem_of_getElem? (i := 182) rfl)) rfl
theorem w_1228 : Cond.classLink RL 94 RX11 ∈ y_tb := y_in (mt_5 _ (List.mem_of_getElem? (i := 183) rfl)) rfl
theorem w_1229 : Cond.instantiable RX11 44 ∈ y_tb := y_in (mt_5 _ (List.mem_of_getElem? (i := 184) rfl)) rfl
theorem w_1230 : Cond.methodLink RL 96 yX11_init ∈ y_tb := y_in (mt_5 _ (List.mem_of_getElem? (i := 185) rfl)) rfl
theorem w_1231 : Cond.instanceMethod yX11_init ∈ y_tb := y_in (mt_5 _ (List.mem_of_getElem? (i := 186) rfl)) rfl
theorem w_1232 : Cond.code yX11_init cX11_init 3 none ∈ y_tb := y_in (mt_5 _ (List.mem_of_getElem? (i := 187) rfl)) rfl
theorem w_1233 : Cond.methodLink RX11 11 ⟨"java/lang/Object", "<init>", "()V"⟩ ∈ y_tb := y_in (mt_5 _ (List.mem_of_getElem? (i := 188) rfl)) rfl
theorem w_1234 : Cond.classLink RX11 17 "[[I" ∈ y_tb := y_in (mt_5 _ (List.mem_of_getElem? (i := 189) rfl)) rfl
theorem w_1236 : Cond.methodLink RX11 56 yX11_at ∈ y_tb := y_in (mt_5 _ (List.mem_of_getElem? (i := 191) rfl)) rfl
theorem w_1237 : Cond.static yX11_at ∈ y_tb := y_in (mt_5 _ (List.mem_of_getElem? (i := 192) rfl)) rfl
theorem w_1238 : Cond.code yX11_at cX11_at 2 (some .int) ∈ y_tb := y_in (mt_5 _ (List.mem_of_getElem? (i := 193) rfl)) rfl
theorem w_1239 : Cond.methodLink RX11 60 yX11_known ∈ y_tb := y_in (mt_5 _ (List.mem_of_getElem? (i := 194) rfl)) rfl
theorem w_1241 : Cond.instanceMethod yX11_known ∈ y_tb := y_in (mt_5 _ (List.mem_of_getElem? (i := 196) rfl)) rfl
theorem w_1242 : Cond.code yX11_known cX11_known 4 none ∈ y_tb := y_in (mt_5 _ (List.mem_of_getElem? (i := 197) rfl)) rfl
theorem w_1243 : Cond.methodLink RX11 64 yX11_forgets ∈ y_tb := y_in (mt_5 _ (List.mem_of_getElem? (i := 198) rfl)) rfl
theorem w_1245 : Cond.instanceMethod yX11_forgets ∈ y_tb := y_in (mt_5 _ (List.mem_of_getElem? (i := 200) rfl)) rfl
theorem w_1246 : Cond.code yX11_forgets cX11_forgets 3 none ∈ y_tb := y_in (mt_5 _ (List.mem_of_getElem? (i := 201) rfl)) rfl
theorem w_1247 : Cond.fieldLink RX11 1 "FilledHolesModel" "thrown" "I" ∈ y_tb := y_in (mt_5 _ (List.mem_of_getElem? (i := 202) rfl)) rfl
theorem w_1248 : Cond.fieldLink RX11 7 "FilledHolesModel" "refused" "[I" ∈ y_tb := y_in (mt_5 _ (List.mem_of_getElem? (i := 203) rfl)) rfl
theorem w_1249 : Cond.fieldLink RX11 19 "FilledHolesModel" "m" "[[I" ∈ y_tb := y_in (mt_5 _ (List.mem_of_getElem? (i := 204) rfl)) rfl
theorem w_1250 : Cond.fieldLink RX11 22 "FilledHolesModel" "w" "[I" ∈ y_tb := y_in (mt_5 _ (List.mem_of_getElem? (i := 205) rfl)) rfl
theorem w_1251 : Cond.fieldLink RX11 25 "FilledHolesModel" "h" "[I" ∈ y_tb := y_in (mt_5 _ (List.mem_of_getElem? (i := 206) rfl)) rfl
theorem w_1252 : Cond.fieldLink RX11 28 "FilledHolesModel" "aside" "[I" ∈ y_tb := y_in (mt_5 _ (List.mem_of_getElem? (i := 207) rfl)) rfl
theorem w_1253 : Cond.fieldLink RX11 31 "FilledHolesModel" "back" "[I" ∈ y_tb := y_in (mt_5 _ (List.mem_of_getElem? (i := 208) rfl)) rfl
theorem w_1254 : Cond.fieldLink RX11 34 "FilledHolesModel" "truth" "[I" ∈ y_tb := y_in (mt_5 _ (List.mem_of_getElem? (i := 209) rfl)) rfl
theorem w_1255 : Cond.fieldLink RX11 301 "FilledHolesModel" "undos" "I" ∈ y_tb := y_in (mt_5 _ (List.mem_of_getElem? (i := 210) rfl)) rfl
theorem w_1256 : Cond.fieldLink RX11 297 "FilledHolesModel" "hasTruth" "Z" ∈ y_tb := y_in (mt_5 _ (List.mem_of_getElem? (i := 211) rfl)) rfl
theorem w_1257 : Cond.fieldLink RX11 37 "FilledHolesModel" "set" "[I" ∈ y_tb := y_in (mt_5 _ (List.mem_of_getElem? (i := 212) rfl)) rfl
theorem w_1258 : Cond.fieldLink RX11 81 "FilledHolesModel" "gx" "I" ∈ y_tb := y_in (mt_5 _ (List.mem_of_getElem? (i := 213) rfl)) rfl
theorem w_1259 : Cond.fieldLink RX11 84 "FilledHolesModel" "gy" "I" ∈ y_tb := y_in (mt_5 _ (List.mem_of_getElem? (i := 214) rfl)) rfl
theorem w_1260 : Cond.fieldLink RX11 112 "FilledHolesModel" "nextX" "I" ∈ y_tb := y_in (mt_5 _ (List.mem_of_getElem? (i := 215) rfl)) rfl
theorem w_1261 : Cond.fieldLink RX11 115 "FilledHolesModel" "nextY" "I" ∈ y_tb := y_in (mt_5 _ (List.mem_of_getElem? (i := 216) rfl)) rfl
theorem w_1262 : Cond.fieldLink RX11 118 "FilledHolesModel" "nextRank" "I" ∈ y_tb := y_in (mt_5 _ (List.mem_of_getElem? (i := 217) rfl)) rfl
theorem w_1263 : Cond.fieldLink RX11 143 "FilledHolesModel" "shift" "I" ∈ y_tb := y_in (mt_5 _ (List.mem_of_getElem? (i := 218) rfl)) rfl
theorem w_1264 : Cond.fieldLink RX11 146 "FilledHolesModel" "bound" "I" ∈ y_tb := y_in (mt_5 _ (List.mem_of_getElem? (i := 219) rfl)) rfl
theorem w_1265 : Cond.fieldLink RX11 149 "FilledHolesModel" "looked" "I" ∈ y_tb := y_in (mt_5 _ (List.mem_of_getElem? (i := 220) rfl)) rfl
theorem w_1266 : Cond.fieldLink RX11 152 "FilledHolesModel" "bestX" "I" ∈ y_tb := y_in (mt_5 _ (List.mem_of_getElem? (i := 221) rfl)) rfl
theorem w_1267 : Cond.fieldLink RX11 155 "FilledHolesModel" "bestY" "I" ∈ y_tb := y_in (mt_5 _ (List.mem_of_getElem? (i := 222) rfl)) rfl
theorem w_1268 : Cond.fieldLink RX11 158 "FilledHolesModel" "bestWay" "I" ∈ y_tb := y_in (mt_5 _ (List.mem_of_getElem? (i := 223) rfl)) rfl
theorem w_1269 : Cond.fieldLink RX11 161 "FilledHolesModel" "bestShift" "I" ∈ y_tb := y_in (mt_5 _ (List.mem_of_getElem? (i := 224) rfl)) rfl
theorem w_1270 : Cond.fieldLink RX11 164 "FilledHolesModel" "bestDifference" "I" ∈ y_tb := y_in (mt_5 _ (List.mem_of_getElem? (i := 225) rfl)) rfl
theorem w_1271 : Cond.fieldLink RX11 167 "FilledHolesModel" "sources" "I" ∈ y_tb := y_in (mt_5 _ (List.mem_of_getElem? (i := 226) rfl)) rfl
theorem w_1272 : Cond.fieldLink RX11 170 "FilledHolesModel" "skipped" "I" ∈ y_tb := y_in (mt_5 _ (List.mem_of_getElem? (i := 227) rfl)) rfl
theorem w_1273 : Cond.fieldLink RX11 173 "FilledHolesModel" "stopped" "I" ∈ y_tb := y_in (mt_5 _ (List.mem_of_getElem? (i := 228) rfl)) rfl
theorem w_1274 : Cond.fieldLink RX11 40 "FilledHolesModel" "tape" "[B" ∈ y_tb := y_in (mt_5 _ (List.mem_of_getElem? (i := 229) rfl)) rfl
theorem w_1275 : Cond.fieldLink RX11 44 "FilledHolesModel" "read" "[I" ∈ y_tb := y_in (mt_5 _ (List.mem_of_getElem? (i := 230) rfl)) rfl
theorem w_1276 : Cond.fieldLink RX11 239 "FilledHolesModel" "taped" "I" ∈ y_tb := y_in (mt_5 _ (List.mem_of_getElem? (i := 231) rfl)) rfl
theorem w_1277 : Cond.fieldLink RX11 47 "FilledHolesModel" "faultAt" "I" ∈ y_tb := y_in (mt_5 _ (List.mem_of_getElem? (i := 232) rfl)) rfl
theorem w_1278 : Cond.fieldLink RX11 255 "FilledHolesModel" "size" "I" ∈ y_tb := y_in (mt_5 _ (List.mem_of_getElem? (i := 233) rfl)) rfl
theorem w_1279 : Cond.fieldLink RX11 252 "FilledHolesModel" "next" "I" ∈ y_tb := y_in (mt_5 _ (List.mem_of_getElem? (i := 234) rfl)) rfl
theorem w_1280 : Cond.fieldLink RX11 246 "FilledHolesModel" "fault" "I" ∈ y_tb := y_in (mt_5 _ (List.mem_of_getElem? (i := 235) rfl)) rfl
theorem w_1281 : Cond.fieldLink RX11 249 "FilledHolesModel" "faultNow" "I" ∈ y_tb := y_in (mt_5 _ (List.mem_of_getElem? (i := 236) rfl)) rfl
theorem w_1282 : Cond.fieldLink RX11 272 "FilledHolesModel" "readW" "I" ∈ y_tb := y_in (mt_5 _ (List.mem_of_getElem? (i := 237) rfl)) rfl
theorem w_1283 : Cond.fieldLink RX11 269 "FilledHolesModel" "readH" "I" ∈ y_tb := y_in (mt_5 _ (List.mem_of_getElem? (i := 238) rfl)) rfl
theorem w_1284 : Cond.fieldLink RX11 278 "FilledHolesModel" "rowMany" "I" ∈ y_tb := y_in (mt_5 _ (List.mem_of_getElem? (i := 239) rfl)) rfl
theorem w_1285 : Cond.fieldLink RX11 50 "FilledHolesModel" "part" "[I" ∈ y_tb := y_in (mt_6 _ (List.mem_of_getElem? (i := 0) rfl)) rfl
theorem w_1286 : Cond.fieldLink RX11 53 "FilledHolesModel" "queue" "[I" ∈ y_tb := y_in (mt_6 _ (List.mem_of_getElem? (i := 1) rfl)) rfl
theorem w_1287 : Cond.fieldLink RX11 323 "FilledHolesModel" "partMany" "I" ∈ y_tb := y_in (mt_6 _ (List.mem_of_getElem? (i := 2) rfl)) rfl
theorem w_1288 : Cond.fieldLink RX11 364 "FilledHolesModel" "seamSum" "I" ∈ y_tb := y_in (mt_6 _ (List.mem_of_getElem? (i := 3) rfl)) rfl
theorem w_1289 : Cond.fieldLink RX11 367 "FilledHolesModel" "seamMany" "I" ∈ y_tb := y_in (mt_6 _ (List.mem_of_getElem? (i := 4) rfl)) rfl
theorem w_1290 : Cond.fieldLink RX11 370 "FilledHolesModel" "seamMost" "I" ∈ y_tb := y_in (mt_6 _ (List.mem_of_getElem? (i := 5) rfl)) rfl
theorem w_1380 : Cond.methodLink RL 100 yX11_feed ∈ y_tb := y_in (mt_6 _ (List.mem_of_getElem? (i := 95) rfl)) rfl
theorem w_1381 : Cond.instanceMethod yX11_feed ∈ y_tb := y_in (mt_6 _ (List.mem_of_getElem? (i := 96) rfl)) rfl
theorem w_1382 : Cond.selects RX11 yX11_feed yX11_feed ∈ y_tb := y_in (mt_6 _ (List.mem_of_getElem? (i := 97) rfl)) rfl
theorem w_1383 : Cond.code yX11_feed cX11_feed 6 (some .int) ∈ y_tb := y_in (mt_6 _ (List.mem_of_getElem? (i := 98) rfl)) rfl
theorem w_1384 : Cond.methodLink RX11 242 yX11_puts ∈ y_tb := y_in (mt_6 _ (List.mem_of_getElem? (i := 99) rfl)) rfl
theorem w_1386 : Cond.instanceMethod yX11_puts ∈ y_tb := y_in (mt_6 _ (List.mem_of_getElem? (i := 101) rfl)) rfl
theorem w_1387 : Cond.code yX11_puts cX11_puts 3 none ∈ y_tb := y_in (mt_6 _ (List.mem_of_getElem? (i := 102) rfl)) rfl
theorem w_1388 : Cond.methodLink RL 106 yX11_text ∈ y_tb := y_in (mt_6 _ (List.mem_of_getElem? (i := 103) rfl)) rfl
theorem w_1389 : Cond.instanceMethod yX11_text ∈ y_tb := y_in (mt_6 _ (List.mem_of_getElem? (i := 104) rfl)) rfl
theorem w_1390 : Cond.selects RX11 yX11_text yX11_text ∈ y_tb := y_in (mt_6 _ (List.mem_of_getElem? (i := 105) rfl)) rfl
theorem w_1391 : Cond.code yX11_text cX11_text 2 (some .int) ∈ y_tb := y_in (mt_6 _ (List.mem_of_getElem? (i := 106) rfl)) rfl
theorem w_1392 : Cond.methodLink RX11 68 yX11_within ∈ y_tb := y_in (mt_6 _ (List.mem_of_getElem? (i := 107) rfl)) rfl
theorem w_1393 : Cond.static yX11_within ∈ y_tb := y_in (mt_6 _ (List.mem_of_getElem? (i := 108) rfl)) rfl
theorem w_1394 : Cond.code yX11_within cX11_within 3 (some .boolean) ∈ y_tb := y_in (mt_6 _ (List.mem_of_getElem? (i := 109) rfl)) rfl
theorem w_1395 : Cond.methodLink RX11 284 yX11_isFine ∈ y_tb := y_in (mt_6 _ (List.mem_of_getElem? (i := 110) rfl)) rfl
theorem w_1397 : Cond.instanceMethod yX11_isFine ∈ y_tb := y_in (mt_6 _ (List.mem_of_getElem? (i := 112) rfl)) rfl
theorem w_1398 : Cond.code yX11_isFine cX11_isFine 4 (some .boolean) ∈ y_tb := y_in (mt_6 _ (List.mem_of_getElem? (i := 113) rfl)) rfl
theorem w_1399 : Cond.methodLink RX11 288 yX11_oneRow ∈ y_tb := y_in (mt_6 _ (List.mem_of_getElem? (i := 114) rfl)) rfl
theorem w_1401 : Cond.instanceMethod yX11_oneRow ∈ y_tb := y_in (mt_6 _ (List.mem_of_getElem? (i := 116) rfl)) rfl
theorem w_1402 : Cond.code yX11_oneRow cX11_oneRow 1 none ∈ y_tb := y_in (mt_6 _ (List.mem_of_getElem? (i := 117) rfl)) rfl
theorem w_1403 : Cond.methodLink RX11 281 yX11_item ∈ y_tb := y_in (mt_6 _ (List.mem_of_getElem? (i := 118) rfl)) rfl
theorem w_1405 : Cond.instanceMethod yX11_item ∈ y_tb := y_in (mt_6 _ (List.mem_of_getElem? (i := 120) rfl)) rfl
theorem w_1406 : Cond.code yX11_item cX11_item 6 none ∈ y_tb := y_in (mt_6 _ (List.mem_of_getElem? (i := 121) rfl)) rfl
theorem w_1407 : Cond.methodLink RX11 262 yX11_isDigit ∈ y_tb := y_in (mt_6 _ (List.mem_of_getElem? (i := 122) rfl)) rfl
theorem w_1409 : Cond.instanceMethod yX11_isDigit ∈ y_tb := y_in (mt_6 _ (List.mem_of_getElem? (i := 124) rfl)) rfl
theorem w_1410 : Cond.code yX11_isDigit cX11_isDigit 1 (some .boolean) ∈ y_tb := y_in (mt_6 _ (List.mem_of_getElem? (i := 125) rfl)) rfl
theorem w_1411 : Cond.methodLink RX11 258 yX11_sign ∈ y_tb := y_in (mt_6 _ (List.mem_of_getElem? (i := 126) rfl)) rfl
theorem w_1413 : Cond.instanceMethod yX11_sign ∈ y_tb := y_in (mt_6 _ (List.mem_of_getElem? (i := 128) rfl)) rfl
theorem w_1414 : Cond.code yX11_sign cX11_sign 1 (some .int) ∈ y_tb := y_in (mt_6 _ (List.mem_of_getElem? (i := 129) rfl)) rfl
theorem w_1415 : Cond.methodLink RX11 216 ⟨"java/lang/Math", "min", "(II)I"⟩ ∈ y_tb := y_in (mt_6 _ (List.mem_of_getElem? (i := 130) rfl)) rfl
theorem w_1416 : Cond.methodLink RX11 266 yX11_wrong ∈ y_tb := y_in (mt_6 _ (List.mem_of_getElem? (i := 131) rfl)) rfl
theorem w_1418 : Cond.instanceMethod yX11_wrong ∈ y_tb := y_in (mt_6 _ (List.mem_of_getElem? (i := 133) rfl)) rfl
theorem w_1419 : Cond.code yX11_wrong cX11_wrong 3 none ∈ y_tb := y_in (mt_6 _ (List.mem_of_getElem? (i := 134) rfl)) rfl
theorem w_1420 : Cond.methodLink RX11 275 yX11_isDot ∈ y_tb := y_in (mt_6 _ (List.mem_of_getElem? (i := 135) rfl)) rfl
theorem w_1422 : Cond.instanceMethod yX11_isDot ∈ y_tb := y_in (mt_6 _ (List.mem_of_getElem? (i := 137) rfl)) rfl
theorem w_1423 : Cond.code yX11_isDot cX11_isDot 1 (some .boolean) ∈ y_tb := y_in (mt_6 _ (List.mem_of_getElem? (i := 138) rfl)) rfl
theorem w_1424 : Cond.methodLink RX11 291 yX11_takes ∈ y_tb := y_in (mt_6 _ (List.mem_of_getElem? (i := 139) rfl)) rfl
theorem w_1426 : Cond.instanceMethod yX11_takes ∈ y_tb := y_in (mt_6 _ (List.mem_of_getElem? (i := 141) rfl)) rfl
theorem w_1427 : Cond.code yX11_takes cX11_takes 3 none ∈ y_tb := y_in (mt_6 _ (List.mem_of_getElem? (i := 142) rfl)) rfl
theorem w_1428 : Cond.methodLink RX11 229 yX11_missing ∈ y_tb := y_in (mt_6 _ (List.mem_of_getElem? (i := 143) rfl)) rfl
theorem w_1430 : Cond.instanceMethod yX11_missing ∈ y_tb := y_in (mt_6 _ (List.mem_of_getElem? (i := 145) rfl)) rfl
theorem w_1431 : Cond.code yX11_missing cX11_missing 3 none ∈ y_tb := y_in (mt_6 _ (List.mem_of_getElem? (i := 146) rfl)) rfl
theorem w_1432 : Cond.methodLink RX11 294 yX11_missingMany ∈ y_tb := y_in (mt_6 _ (List.mem_of_getElem? (i := 147) rfl)) rfl
theorem w_1434 : Cond.instanceMethod yX11_missingMany ∈ y_tb := y_in (mt_6 _ (List.mem_of_getElem? (i := 149) rfl)) rfl
theorem w_1435 : Cond.code yX11_missingMany cX11_missingMany 1 (some .int) ∈ y_tb := y_in (mt_6 _ (List.mem_of_getElem? (i := 150) rfl)) rfl
theorem w_1436 : Cond.methodLink RX11 311 yX11_knownMany ∈ y_tb := y_in (mt_6 _ (List.mem_of_getElem? (i := 151) rfl)) rfl
theorem w_1438 : Cond.instanceMethod yX11_knownMany ∈ y_tb := y_in (mt_6 _ (List.mem_of_getElem? (i := 153) rfl)) rfl
theorem w_1439 : Cond.code yX11_knownMany cX11_knownMany 4 (some .int) ∈ y_tb := y_in (mt_6 _ (List.mem_of_getElem? (i := 154) rfl)) rfl
theorem w_1440 : Cond.methodLink RX11 78 yX11_isKnown ∈ y_tb := y_in (mt_6 _ (List.mem_of_getElem? (i := 155) rfl)) rfl
theorem w_1442 : Cond.instanceMethod yX11_isKnown ∈ y_tb := y_in (mt_6 _ (List.mem_of_getElem? (i := 157) rfl)) rfl
theorem w_1443 : Cond.code yX11_isKnown cX11_isKnown 4 (some .boolean) ∈ y_tb := y_in (mt_6 _ (List.mem_of_getElem? (i := 158) rfl)) rfl
theorem w_1444 : Cond.methodLink RX11 72 yX11_has ∈ y_tb := y_in (mt_6 _ (List.mem_of_getElem? (i := 159) rfl)) rfl
theorem w_1446 : Cond.instanceMethod yX11_has ∈ y_tb := y_in (mt_6 _ (List.mem_of_getElem? (i := 161) rfl)) rfl
theorem w_1447 : Cond.code yX11_has cX11_has 4 (some .boolean) ∈ y_tb := y_in (mt_6 _ (List.mem_of_getElem? (i := 162) rfl)) rfl
theorem w_1448 : Cond.methodLink RL 114 yX11_fault ∈ y_tb := y_in (mt_6 _ (List.mem_of_getElem? (i := 163) rfl)) rfl
theorem w_1449 : Cond.instanceMethod yX11_fault ∈ y_tb := y_in (mt_6 _ (List.mem_of_getElem? (i := 164) rfl)) rfl
theorem w_1450 : Cond.selects RX11 yX11_fault yX11_fault ∈ y_tb := y_in (mt_6 _ (List.mem_of_getElem? (i := 165) rfl)) rfl
theorem w_1451 : Cond.code yX11_fault cX11_fault 1 (some .int) ∈ y_tb := y_in (mt_6 _ (List.mem_of_getElem? (i := 166) rfl)) rfl
theorem w_1452 : Cond.methodLink RL 118 yX11_set ∈ y_tb := y_in (mt_6 _ (List.mem_of_getElem? (i := 167) rfl)) rfl
theorem w_1453 : Cond.instanceMethod yX11_set ∈ y_tb := y_in (mt_6 _ (List.mem_of_getElem? (i := 168) rfl)) rfl
theorem w_1454 : Cond.selects RX11 yX11_set yX11_set ∈ y_tb := y_in (mt_6 _ (List.mem_of_getElem? (i := 169) rfl)) rfl
theorem w_1455 : Cond.code yX11_set cX11_set 5 (some .int) ∈ y_tb := y_in (mt_6 _ (List.mem_of_getElem? (i := 170) rfl)) rfl
theorem w_1456 : Cond.methodLink RL 122 yX11_hole ∈ y_tb := y_in (mt_6 _ (List.mem_of_getElem? (i := 171) rfl)) rfl
theorem w_1457 : Cond.instanceMethod yX11_hole ∈ y_tb := y_in (mt_6 _ (List.mem_of_getElem? (i := 172) rfl)) rfl
theorem w_1458 : Cond.selects RX11 yX11_hole yX11_hole ∈ y_tb := y_in (mt_6 _ (List.mem_of_getElem? (i := 173) rfl)) rfl
theorem w_1459 : Cond.code yX11_hole cX11_hole 8 (some .int) ∈ y_tb := y_in (mt_6 _ (List.mem_of_getElem? (i := 174) rfl)) rfl
theorem w_1460 : Cond.methodLink RX11 304 yX11_keeps ∈ y_tb := y_in (mt_6 _ (List.mem_of_getElem? (i := 175) rfl)) rfl
theorem w_1462 : Cond.instanceMethod yX11_keeps ∈ y_tb := y_in (mt_6 _ (List.mem_of_getElem? (i := 177) rfl)) rfl
theorem w_1463 : Cond.code yX11_keeps cX11_keeps 2 none ∈ y_tb := y_in (mt_6 _ (List.mem_of_getElem? (i := 178) rfl)) rfl
theorem w_1464 : Cond.methodLink RL 126 yX11_paint ∈ y_tb := y_in (mt_6 _ (List.mem_of_getElem? (i := 179) rfl)) rfl
theorem w_1465 : Cond.instanceMethod yX11_paint ∈ y_tb := y_in (mt_6 _ (List.mem_of_getElem? (i := 180) rfl)) rfl
theorem w_1466 : Cond.selects RX11 yX11_paint yX11_paint ∈ y_tb := y_in (mt_6 _ (List.mem_of_getElem? (i := 181) rfl)) rfl
theorem w_1467 : Cond.code yX11_paint cX11_paint 5 (some .int) ∈ y_tb := y_in (mt_6 _ (List.mem_of_getElem? (i := 182) rfl)) rfl
theorem w_1468 : Cond.methodLink RX11 307 yX11_isThere ∈ y_tb := y_in (mt_6 _ (List.mem_of_getElem? (i := 183) rfl)) rfl
theorem w_1470 : Cond.instanceMethod yX11_isThere ∈ y_tb := y_in (mt_6 _ (List.mem_of_getElem? (i := 185) rfl)) rfl
theorem w_1471 : Cond.code yX11_isThere cX11_isThere 3 (some .boolean) ∈ y_tb := y_in (mt_6 _ (List.mem_of_getElem? (i := 186) rfl)) rfl
theorem w_1472 : Cond.methodLink RX11 87 yX11_toneOf ∈ y_tb := y_in (mt_6 _ (List.mem_of_getElem? (i := 187) rfl)) rfl
theorem w_1474 : Cond.instanceMethod yX11_toneOf ∈ y_tb := y_in (mt_6 _ (List.mem_of_getElem? (i := 189) rfl)) rfl
theorem w_1475 : Cond.code yX11_toneOf cX11_toneOf 4 (some .int) ∈ y_tb := y_in (mt_6 _ (List.mem_of_getElem? (i := 190) rfl)) rfl
theorem w_1476 : Cond.methodLink RL 130 yX11_keep ∈ y_tb := y_in (mt_6 _ (List.mem_of_getElem? (i := 191) rfl)) rfl
theorem w_1477 : Cond.instanceMethod yX11_keep ∈ y_tb := y_in (mt_6 _ (List.mem_of_getElem? (i := 192) rfl)) rfl
theorem w_1478 : Cond.selects RX11 yX11_keep yX11_keep ∈ y_tb := y_in (mt_6 _ (List.mem_of_getElem? (i := 193) rfl)) rfl
theorem w_1479 : Cond.code yX11_keep cX11_keep 2 (some .int) ∈ y_tb := y_in (mt_6 _ (List.mem_of_getElem? (i := 194) rfl)) rfl
theorem w_1480 : Cond.methodLink RL 133 yX11_fill ∈ y_tb := y_in (mt_6 _ (List.mem_of_getElem? (i := 195) rfl)) rfl
theorem w_1481 : Cond.instanceMethod yX11_fill ∈ y_tb := y_in (mt_6 _ (List.mem_of_getElem? (i := 196) rfl)) rfl
theorem w_1482 : Cond.selects RX11 yX11_fill yX11_fill ∈ y_tb := y_in (mt_6 _ (List.mem_of_getElem? (i := 197) rfl)) rfl
theorem w_1483 : Cond.code yX11_fill cX11_fill 2 (some .int) ∈ y_tb := y_in (mt_6 _ (List.mem_of_getElem? (i := 198) rfl)) rfl
theorem w_1484 : Cond.methodLink RX11 314 yX11_laysAside ∈ y_tb := y_in (mt_6 _ (List.mem_of_getElem? (i := 199) rfl)) rfl
theorem w_1486 : Cond.instanceMethod yX11_laysAside ∈ y_tb := y_in (mt_6 _ (List.mem_of_getElem? (i := 201) rfl)) rfl
theorem w_1487 : Cond.code yX11_laysAside cX11_laysAside 2 none ∈ y_tb := y_in (mt_6 _ (List.mem_of_getElem? (i := 202) rfl)) rfl
theorem w_1488 : Cond.methodLink RX11 235 yX11_fillsAll ∈ y_tb := y_in (mt_6 _ (List.mem_of_getElem? (i := 203) rfl)) rfl
theorem w_1490 : Cond.instanceMethod yX11_fillsAll ∈ y_tb := y_in (mt_6 _ (List.mem_of_getElem? (i := 205) rfl)) rfl
theorem w_1491 : Cond.code yX11_fillsAll cX11_fillsAll 5 (some .int) ∈ y_tb := y_in (mt_6 _ (List.mem_of_getElem? (i := 206) rfl)) rfl
theorem w_1492 : Cond.methodLink RX11 222 yX11_fills ∈ y_tb := y_in (mt_6 _ (List.mem_of_getElem? (i := 207) rfl)) rfl
theorem w_1494 : Cond.instanceMethod yX11_fills ∈ y_tb := y_in (mt_6 _ (List.mem_of_getElem? (i := 209) rfl)) rfl
theorem w_1495 : Cond.code yX11_fills cX11_fills 9 (some .boolean) ∈ y_tb := y_in (mt_6 _ (List.mem_of_getElem? (i := 210) rfl)) rfl
theorem w_1496 : Cond.methodLink RX11 203 yX11_findsNext ∈ y_tb := y_in (mt_6 _ (List.mem_of_getElem? (i := 211) rfl)) rfl
theorem w_1498 : Cond.instanceMethod yX11_findsNext ∈ y_tb := y_in (mt_6 _ (List.mem_of_getElem? (i := 213) rfl)) rfl
theorem w_1499 : Cond.code yX11_findsNext cX11_findsNext 5 (some .boolean) ∈ y_tb := y_in (mt_6 _ (List.mem_of_getElem? (i := 214) rfl)) rfl
theorem w_1500 : Cond.methodLink RX11 121 yX11_isFront ∈ y_tb := y_in (mt_6 _ (List.mem_of_getElem? (i := 215) rfl)) rfl
theorem w_1502 : Cond.instanceMethod yX11_isFront ∈ y_tb := y_in (mt_6 _ (List.mem_of_getElem? (i := 217) rfl)) rfl
theorem w_1503 : Cond.code yX11_isFront cX11_isFront 4 (some .boolean) ∈ y_tb := y_in (mt_6 _ (List.mem_of_getElem? (i := 218) rfl)) rfl
theorem w_1504 : Cond.methodLink RX11 75 yX11_isMissing ∈ y_tb := y_in (mt_6 _ (List.mem_of_getElem? (i := 219) rfl)) rfl
theorem w_1506 : Cond.instanceMethod yX11_isMissing ∈ y_tb := y_in (mt_6 _ (List.mem_of_getElem? (i := 221) rfl)) rfl
theorem w_1507 : Cond.code yX11_isMissing cX11_isMissing 4 (some .boolean) ∈ y_tb := y_in (mt_6 _ (List.mem_of_getElem? (i := 222) rfl)) rfl
theorem w_1508 : Cond.methodLink RX11 124 yX11_rankOf ∈ y_tb := y_in (mt_6 _ (List.mem_of_getElem? (i := 223) rfl)) rfl
theorem w_1510 : Cond.instanceMethod yX11_rankOf ∈ y_tb := y_in (mt_6 _ (List.mem_of_getElem? (i := 225) rfl)) rfl
theorem w_1511 : Cond.code yX11_rankOf cX11_rankOf 4 (some .int) ∈ y_tb := y_in (mt_6 _ (List.mem_of_getElem? (i := 226) rfl)) rfl
theorem w_1512 : Cond.methodLink RX11 106 yX11_steady ∈ y_tb := y_in (mt_6 _ (List.mem_of_getElem? (i := 227) rfl)) rfl
theorem w_1514 : Cond.instanceMethod yX11_steady ∈ y_tb := y_in (mt_6 _ (List.mem_of_getElem? (i := 229) rfl)) rfl
theorem w_1515 : Cond.code yX11_steady cX11_steady 8 (some .int) ∈ y_tb := y_in (mt_6 _ (List.mem_of_getElem? (i := 230) rfl)) rfl
theorem w_1516 : Cond.methodLink RX11 109 yX11_flow ∈ y_tb := y_in (mt_6 _ (List.mem_of_getElem? (i := 231) rfl)) rfl
theorem w_1518 : Cond.instanceMethod yX11_flow ∈ y_tb := y_in (mt_6 _ (List.mem_of_getElem? (i := 233) rfl)) rfl
theorem w_1519 : Cond.code yX11_flow cX11_flow 4 (some .int) ∈ y_tb := y_in (mt_6 _ (List.mem_of_getElem? (i := 234) rfl)) rfl
theorem w_1520 : Cond.methodLink RX11 97 yX11_slopes ∈ y_tb := y_in (mt_6 _ (List.mem_of_getElem? (i := 235) rfl)) rfl
theorem w_1522 : Cond.instanceMethod yX11_slopes ∈ y_tb := y_in (mt_6 _ (List.mem_of_getElem? (i := 237) rfl)) rfl
theorem w_1523 : Cond.code yX11_slopes cX11_slopes 8 none ∈ y_tb := y_in (mt_6 _ (List.mem_of_getElem? (i := 238) rfl)) rfl
theorem w_1524 : Cond.methodLink RX11 91 ⟨"java/lang/Math", "abs", "(I)I"⟩ ∈ y_tb := y_in (mt_6 _ (List.mem_of_getElem? (i := 239) rfl)) rfl
theorem w_1525 : Cond.methodLink RX11 100 yX11_outY ∈ y_tb := y_in (mt_7 _ (List.mem_of_getElem? (i := 0) rfl)) rfl
theorem w_1527 : Cond.instanceMethod yX11_outY ∈ y_tb := y_in (mt_7 _ (List.mem_of_getElem? (i := 2) rfl)) rfl
theorem w_1528 : Cond.code yX11_outY cX11_outY 4 (some .int) ∈ y_tb := y_in (mt_7 _ (List.mem_of_getElem? (i := 3) rfl)) rfl
theorem w_1529 : Cond.methodLink RX11 103 yX11_outX ∈ y_tb := y_in (mt_7 _ (List.mem_of_getElem? (i := 4) rfl)) rfl
theorem w_1531 : Cond.instanceMethod yX11_outX ∈ y_tb := y_in (mt_7 _ (List.mem_of_getElem? (i := 6) rfl)) rfl
theorem w_1532 : Cond.code yX11_outX cX11_outX 4 (some .int) ∈ y_tb := y_in (mt_7 _ (List.mem_of_getElem? (i := 7) rfl)) rfl
theorem w_1533 : Cond.methodLink RX11 207 yX11_guided ∈ y_tb := y_in (mt_7 _ (List.mem_of_getElem? (i := 8) rfl)) rfl
theorem w_1535 : Cond.instanceMethod yX11_guided ∈ y_tb := y_in (mt_7 _ (List.mem_of_getElem? (i := 10) rfl)) rfl
theorem w_1536 : Cond.code yX11_guided cX11_guided 9 none ∈ y_tb := y_in (mt_7 _ (List.mem_of_getElem? (i := 11) rfl)) rfl
theorem w_1537 : Cond.methodLink RX11 185 yX11_begins ∈ y_tb := y_in (mt_7 _ (List.mem_of_getElem? (i := 12) rfl)) rfl
theorem w_1539 : Cond.instanceMethod yX11_begins ∈ y_tb := y_in (mt_7 _ (List.mem_of_getElem? (i := 14) rfl)) rfl
theorem w_1540 : Cond.code yX11_begins cX11_begins 1 none ∈ y_tb := y_in (mt_7 _ (List.mem_of_getElem? (i := 15) rfl)) rfl
theorem w_1541 : Cond.methodLink RX11 192 yX11_isWholeSource ∈ y_tb := y_in (mt_7 _ (List.mem_of_getElem? (i := 16) rfl)) rfl
theorem w_1543 : Cond.instanceMethod yX11_isWholeSource ∈ y_tb := y_in (mt_7 _ (List.mem_of_getElem? (i := 18) rfl)) rfl
theorem w_1544 : Cond.code yX11_isWholeSource cX11_isWholeSource 6 (some .boolean) ∈ y_tb := y_in (mt_7 _ (List.mem_of_getElem? (i := 19) rfl)) rfl
theorem w_1545 : Cond.methodLink RX11 127 yX11_isFilled ∈ y_tb := y_in (mt_7 _ (List.mem_of_getElem? (i := 20) rfl)) rfl
theorem w_1547 : Cond.instanceMethod yX11_isFilled ∈ y_tb := y_in (mt_7 _ (List.mem_of_getElem? (i := 22) rfl)) rfl
theorem w_1548 : Cond.code yX11_isFilled cX11_isFilled 4 (some .boolean) ∈ y_tb := y_in (mt_7 _ (List.mem_of_getElem? (i := 23) rfl)) rfl
theorem w_1549 : Cond.methodLink RX11 195 yX11_asks ∈ y_tb := y_in (mt_7 _ (List.mem_of_getElem? (i := 24) rfl)) rfl
theorem w_1551 : Cond.instanceMethod yX11_asks ∈ y_tb := y_in (mt_7 _ (List.mem_of_getElem? (i := 26) rfl)) rfl
theorem w_1552 : Cond.code yX11_asks cX11_asks 9 none ∈ y_tb := y_in (mt_7 _ (List.mem_of_getElem? (i := 27) rfl)) rfl
theorem w_1553 : Cond.methodLink RX11 176 yX11_bounds ∈ y_tb := y_in (mt_7 _ (List.mem_of_getElem? (i := 28) rfl)) rfl
theorem w_1555 : Cond.instanceMethod yX11_bounds ∈ y_tb := y_in (mt_7 _ (List.mem_of_getElem? (i := 30) rfl)) rfl
theorem w_1556 : Cond.code yX11_bounds cX11_bounds 13 none ∈ y_tb := y_in (mt_7 _ (List.mem_of_getElem? (i := 31) rfl)) rfl
theorem w_1557 : Cond.methodLink RX11 136 yX11_apart ∈ y_tb := y_in (mt_7 _ (List.mem_of_getElem? (i := 32) rfl)) rfl
theorem w_1559 : Cond.instanceMethod yX11_apart ∈ y_tb := y_in (mt_7 _ (List.mem_of_getElem? (i := 34) rfl)) rfl
theorem w_1560 : Cond.code yX11_apart cX11_apart 9 (some .int) ∈ y_tb := y_in (mt_7 _ (List.mem_of_getElem? (i := 35) rfl)) rfl
theorem w_1561 : Cond.methodLink RX11 130 yX11_wayX ∈ y_tb := y_in (mt_7 _ (List.mem_of_getElem? (i := 36) rfl)) rfl
theorem w_1562 : Cond.static yX11_wayX ∈ y_tb := y_in (mt_7 _ (List.mem_of_getElem? (i := 37) rfl)) rfl
theorem w_1563 : Cond.code yX11_wayX cX11_wayX 4 (some .int) ∈ y_tb := y_in (mt_7 _ (List.mem_of_getElem? (i := 38) rfl)) rfl
theorem w_1564 : Cond.methodLink RX11 133 yX11_wayY ∈ y_tb := y_in (mt_7 _ (List.mem_of_getElem? (i := 39) rfl)) rfl
theorem w_1565 : Cond.static yX11_wayY ∈ y_tb := y_in (mt_7 _ (List.mem_of_getElem? (i := 40) rfl)) rfl
theorem w_1566 : Cond.code yX11_wayY cX11_wayY 4 (some .int) ∈ y_tb := y_in (mt_7 _ (List.mem_of_getElem? (i := 41) rfl)) rfl
theorem w_1567 : Cond.methodLink RX11 140 yX11_weight ∈ y_tb := y_in (mt_7 _ (List.mem_of_getElem? (i := 42) rfl)) rfl
theorem w_1569 : Cond.instanceMethod yX11_weight ∈ y_tb := y_in (mt_7 _ (List.mem_of_getElem? (i := 44) rfl)) rfl
theorem w_1570 : Cond.code yX11_weight cX11_weight 4 (some .int) ∈ y_tb := y_in (mt_7 _ (List.mem_of_getElem? (i := 45) rfl)) rfl
theorem w_1572 : Cond.methodLink RX11 181 yX11_differs ∈ y_tb := y_in (mt_7 _ (List.mem_of_getElem? (i := 47) rfl)) rfl
theorem w_1574 : Cond.instanceMethod yX11_differs ∈ y_tb := y_in (mt_7 _ (List.mem_of_getElem? (i := 49) rfl)) rfl
theorem w_1575 : Cond.code yX11_differs cX11_differs 12 (some .int) ∈ y_tb := y_in (mt_7 _ (List.mem_of_getElem? (i := 50) rfl)) rfl
theorem w_1576 : Cond.methodLink RX11 199 yX11_searches ∈ y_tb := y_in (mt_7 _ (List.mem_of_getElem? (i := 51) rfl)) rfl
theorem w_1578 : Cond.instanceMethod yX11_searches ∈ y_tb := y_in (mt_7 _ (List.mem_of_getElem? (i := 53) rfl)) rfl
theorem w_1579 : Cond.code yX11_searches cX11_searches 7 none ∈ y_tb := y_in (mt_7 _ (List.mem_of_getElem? (i := 54) rfl)) rfl
theorem w_1580 : Cond.methodLink RX11 188 yX11_isNear ∈ y_tb := y_in (mt_7 _ (List.mem_of_getElem? (i := 55) rfl)) rfl
theorem w_1582 : Cond.instanceMethod yX11_isNear ∈ y_tb := y_in (mt_7 _ (List.mem_of_getElem? (i := 57) rfl)) rfl
theorem w_1583 : Cond.code yX11_isNear cX11_isNear 6 (some .boolean) ∈ y_tb := y_in (mt_7 _ (List.mem_of_getElem? (i := 58) rfl)) rfl
theorem w_1584 : Cond.methodLink RX11 210 yX11_fillsOne ∈ y_tb := y_in (mt_7 _ (List.mem_of_getElem? (i := 59) rfl)) rfl
theorem w_1586 : Cond.instanceMethod yX11_fillsOne ∈ y_tb := y_in (mt_7 _ (List.mem_of_getElem? (i := 61) rfl)) rfl
theorem w_1587 : Cond.code yX11_fillsOne cX11_fillsOne 7 none ∈ y_tb := y_in (mt_7 _ (List.mem_of_getElem? (i := 62) rfl)) rfl
theorem w_1588 : Cond.methodLink RX11 219 ⟨"java/lang/Math", "max", "(II)I"⟩ ∈ y_tb := y_in (mt_7 _ (List.mem_of_getElem? (i := 63) rfl)) rfl
theorem w_1589 : Cond.methodLink RX11 213 yX11_logs ∈ y_tb := y_in (mt_7 _ (List.mem_of_getElem? (i := 64) rfl)) rfl
theorem w_1591 : Cond.instanceMethod yX11_logs ∈ y_tb := y_in (mt_7 _ (List.mem_of_getElem? (i := 66) rfl)) rfl
theorem w_1592 : Cond.code yX11_logs cX11_logs 8 none ∈ y_tb := y_in (mt_7 _ (List.mem_of_getElem? (i := 67) rfl)) rfl
theorem w_1593 : Cond.methodLink RX11 317 yX11_keepsAside ∈ y_tb := y_in (mt_7 _ (List.mem_of_getElem? (i := 68) rfl)) rfl
theorem w_1595 : Cond.instanceMethod yX11_keepsAside ∈ y_tb := y_in (mt_7 _ (List.mem_of_getElem? (i := 70) rfl)) rfl
theorem w_1596 : Cond.code yX11_keepsAside cX11_keepsAside 3 (some .int) ∈ y_tb := y_in (mt_7 _ (List.mem_of_getElem? (i := 71) rfl)) rfl
theorem w_1597 : Cond.methodLink RL 136 yX11_guide ∈ y_tb := y_in (mt_7 _ (List.mem_of_getElem? (i := 72) rfl)) rfl
theorem w_1598 : Cond.instanceMethod yX11_guide ∈ y_tb := y_in (mt_7 _ (List.mem_of_getElem? (i := 73) rfl)) rfl
theorem w_1599 : Cond.selects RX11 yX11_guide yX11_guide ∈ y_tb := y_in (mt_7 _ (List.mem_of_getElem? (i := 74) rfl)) rfl
theorem w_1600 : Cond.code yX11_guide cX11_guide 2 (some .int) ∈ y_tb := y_in (mt_7 _ (List.mem_of_getElem? (i := 75) rfl)) rfl
theorem w_1601 : Cond.methodLink RX11 320 yX11_guides ∈ y_tb := y_in (mt_7 _ (List.mem_of_getElem? (i := 76) rfl)) rfl
theorem w_1603 : Cond.instanceMethod yX11_guides ∈ y_tb := y_in (mt_7 _ (List.mem_of_getElem? (i := 78) rfl)) rfl
theorem w_1604 : Cond.code yX11_guides cX11_guides 4 (some .int) ∈ y_tb := y_in (mt_7 _ (List.mem_of_getElem? (i := 79) rfl)) rfl
theorem w_1605 : Cond.methodLink RX11 232 yX11_halves ∈ y_tb := y_in (mt_7 _ (List.mem_of_getElem? (i := 80) rfl)) rfl
theorem w_1607 : Cond.instanceMethod yX11_halves ∈ y_tb := y_in (mt_7 _ (List.mem_of_getElem? (i := 82) rfl)) rfl
theorem w_1608 : Cond.code yX11_halves cX11_halves 4 (some .boolean) ∈ y_tb := y_in (mt_7 _ (List.mem_of_getElem? (i := 83) rfl)) rfl
theorem w_1609 : Cond.methodLink RX11 226 yX11_halvesOne ∈ y_tb := y_in (mt_7 _ (List.mem_of_getElem? (i := 84) rfl)) rfl
theorem w_1611 : Cond.instanceMethod yX11_halvesOne ∈ y_tb := y_in (mt_7 _ (List.mem_of_getElem? (i := 86) rfl)) rfl
theorem w_1612 : Cond.code yX11_halvesOne cX11_halvesOne 8 none ∈ y_tb := y_in (mt_7 _ (List.mem_of_getElem? (i := 87) rfl)) rfl
theorem w_1613 : Cond.methodLink RL 140 yX11_undo ∈ y_tb := y_in (mt_7 _ (List.mem_of_getElem? (i := 88) rfl)) rfl
theorem w_1614 : Cond.instanceMethod yX11_undo ∈ y_tb := y_in (mt_7 _ (List.mem_of_getElem? (i := 89) rfl)) rfl
theorem w_1615 : Cond.selects RX11 yX11_undo yX11_undo ∈ y_tb := y_in (mt_7 _ (List.mem_of_getElem? (i := 90) rfl)) rfl
theorem w_1616 : Cond.code yX11_undo cX11_undo 2 (some .int) ∈ y_tb := y_in (mt_7 _ (List.mem_of_getElem? (i := 91) rfl)) rfl
theorem w_1617 : Cond.methodLink RL 165 yX11_part ∈ y_tb := y_in (mt_7 _ (List.mem_of_getElem? (i := 92) rfl)) rfl
theorem w_1618 : Cond.instanceMethod yX11_part ∈ y_tb := y_in (mt_7 _ (List.mem_of_getElem? (i := 93) rfl)) rfl
theorem w_1619 : Cond.selects RX11 yX11_part yX11_part ∈ y_tb := y_in (mt_7 _ (List.mem_of_getElem? (i := 94) rfl)) rfl
theorem w_1620 : Cond.code yX11_part cX11_part 11 (some .int) ∈ y_tb := y_in (mt_7 _ (List.mem_of_getElem? (i := 95) rfl)) rfl
theorem w_1621 : Cond.methodLink RX11 332 yX11_isPart ∈ y_tb := y_in (mt_7 _ (List.mem_of_getElem? (i := 96) rfl)) rfl
theorem w_1623 : Cond.instanceMethod yX11_isPart ∈ y_tb := y_in (mt_7 _ (List.mem_of_getElem? (i := 98) rfl)) rfl
theorem w_1624 : Cond.code yX11_isPart cX11_isPart 2 (some .boolean) ∈ y_tb := y_in (mt_7 _ (List.mem_of_getElem? (i := 99) rfl)) rfl
theorem w_1625 : Cond.methodLink RX11 329 yX11_parts ∈ y_tb := y_in (mt_7 _ (List.mem_of_getElem? (i := 100) rfl)) rfl
theorem w_1627 : Cond.instanceMethod yX11_parts ∈ y_tb := y_in (mt_7 _ (List.mem_of_getElem? (i := 102) rfl)) rfl
theorem w_1628 : Cond.code yX11_parts cX11_parts 3 none ∈ y_tb := y_in (mt_7 _ (List.mem_of_getElem? (i := 103) rfl)) rfl
theorem w_1629 : Cond.methodLink RX11 326 yX11_spreads ∈ y_tb := y_in (mt_7 _ (List.mem_of_getElem? (i := 104) rfl)) rfl
theorem w_1631 : Cond.instanceMethod yX11_spreads ∈ y_tb := y_in (mt_7 _ (List.mem_of_getElem? (i := 106) rfl)) rfl
theorem w_1632 : Cond.code yX11_spreads cX11_spreads 10 none ∈ y_tb := y_in (mt_7 _ (List.mem_of_getElem? (i := 107) rfl)) rfl
theorem w_1633 : Cond.methodLink RX11 335 yX11_isOf ∈ y_tb := y_in (mt_7 _ (List.mem_of_getElem? (i := 108) rfl)) rfl
theorem w_1635 : Cond.instanceMethod yX11_isOf ∈ y_tb := y_in (mt_7 _ (List.mem_of_getElem? (i := 110) rfl)) rfl
theorem w_1636 : Cond.code yX11_isOf cX11_isOf 4 (some .boolean) ∈ y_tb := y_in (mt_7 _ (List.mem_of_getElem? (i := 111) rfl)) rfl
theorem w_1637 : Cond.methodLink RL 168 yX11_ring ∈ y_tb := y_in (mt_7 _ (List.mem_of_getElem? (i := 112) rfl)) rfl
theorem w_1638 : Cond.instanceMethod yX11_ring ∈ y_tb := y_in (mt_7 _ (List.mem_of_getElem? (i := 113) rfl)) rfl
theorem w_1639 : Cond.selects RX11 yX11_ring yX11_ring ∈ y_tb := y_in (mt_7 _ (List.mem_of_getElem? (i := 114) rfl)) rfl
theorem w_1640 : Cond.code yX11_ring cX11_ring 9 (some .int) ∈ y_tb := y_in (mt_7 _ (List.mem_of_getElem? (i := 115) rfl)) rfl
theorem w_1641 : Cond.methodLink RL 143 yX11_told ∈ y_tb := y_in (mt_7 _ (List.mem_of_getElem? (i := 116) rfl)) rfl
theorem w_1642 : Cond.instanceMethod yX11_told ∈ y_tb := y_in (mt_7 _ (List.mem_of_getElem? (i := 117) rfl)) rfl
theorem w_1643 : Cond.selects RX11 yX11_told yX11_told ∈ y_tb := y_in (mt_7 _ (List.mem_of_getElem? (i := 118) rfl)) rfl
theorem w_1644 : Cond.code yX11_told cX11_told 2 (some .int) ∈ y_tb := y_in (mt_7 _ (List.mem_of_getElem? (i := 119) rfl)) rfl
theorem w_1645 : Cond.methodLink RX11 338 yX11_filledMany ∈ y_tb := y_in (mt_7 _ (List.mem_of_getElem? (i := 120) rfl)) rfl
theorem w_1647 : Cond.instanceMethod yX11_filledMany ∈ y_tb := y_in (mt_7 _ (List.mem_of_getElem? (i := 122) rfl)) rfl
theorem w_1648 : Cond.code yX11_filledMany cX11_filledMany 4 (some .int) ∈ y_tb := y_in (mt_7 _ (List.mem_of_getElem? (i := 123) rfl)) rfl
theorem w_1649 : Cond.methodLink RX11 341 yX11_frontMany ∈ y_tb := y_in (mt_7 _ (List.mem_of_getElem? (i := 124) rfl)) rfl
theorem w_1651 : Cond.instanceMethod yX11_frontMany ∈ y_tb := y_in (mt_7 _ (List.mem_of_getElem? (i := 126) rfl)) rfl
theorem w_1652 : Cond.code yX11_frontMany cX11_frontMany 4 (some .int) ∈ y_tb := y_in (mt_7 _ (List.mem_of_getElem? (i := 127) rfl)) rfl
theorem w_1653 : Cond.methodLink RL 146 yX11_dot ∈ y_tb := y_in (mt_7 _ (List.mem_of_getElem? (i := 128) rfl)) rfl
theorem w_1654 : Cond.instanceMethod yX11_dot ∈ y_tb := y_in (mt_7 _ (List.mem_of_getElem? (i := 129) rfl)) rfl
theorem w_1655 : Cond.selects RX11 yX11_dot yX11_dot ∈ y_tb := y_in (mt_7 _ (List.mem_of_getElem? (i := 130) rfl)) rfl
theorem w_1656 : Cond.code yX11_dot cX11_dot 5 (some .int) ∈ y_tb := y_in (mt_7 _ (List.mem_of_getElem? (i := 131) rfl)) rfl
theorem w_1657 : Cond.methodLink RX11 344 yX11_xOf ∈ y_tb := y_in (mt_7 _ (List.mem_of_getElem? (i := 132) rfl)) rfl
theorem w_1658 : Cond.static yX11_xOf ∈ y_tb := y_in (mt_7 _ (List.mem_of_getElem? (i := 133) rfl)) rfl
theorem w_1659 : Cond.code yX11_xOf cX11_xOf 1 (some .int) ∈ y_tb := y_in (mt_7 _ (List.mem_of_getElem? (i := 134) rfl)) rfl
theorem w_1660 : Cond.methodLink RX11 347 yX11_yOf ∈ y_tb := y_in (mt_7 _ (List.mem_of_getElem? (i := 135) rfl)) rfl
theorem w_1661 : Cond.static yX11_yOf ∈ y_tb := y_in (mt_7 _ (List.mem_of_getElem? (i := 136) rfl)) rfl
theorem w_1662 : Cond.code yX11_yOf cX11_yOf 1 (some .int) ∈ y_tb := y_in (mt_7 _ (List.mem_of_getElem? (i := 137) rfl)) rfl
theorem w_1663 : Cond.methodLink RL 149 yX11_rank ∈ y_tb := y_in (mt_7 _ (List.mem_of_getElem? (i := 138) rfl)) rfl
theorem w_1664 : Cond.instanceMethod yX11_rank ∈ y_tb := y_in (mt_7 _ (List.mem_of_getElem? (i := 139) rfl)) rfl
theorem w_1665 : Cond.selects RX11 yX11_rank yX11_rank ∈ y_tb := y_in (mt_7 _ (List.mem_of_getElem? (i := 140) rfl)) rfl
theorem w_1666 : Cond.code yX11_rank cX11_rank 4 (some .int) ∈ y_tb := y_in (mt_7 _ (List.mem_of_getElem? (i := 141) rfl)) rfl
theorem w_1667 : Cond.methodLink RL 152 yX11_next ∈ y_tb := y_in (mt_7 _ (List.mem_of_getElem? (i := 142) rfl)) rfl
theorem w_1668 : Cond.instanceMethod yX11_next ∈ y_tb := y_in (mt_7 _ (List.mem_of_getElem? (i := 143) rfl)) rfl
theorem w_1669 : Cond.selects RX11 yX11_next yX11_next ∈ y_tb := y_in (mt_7 _ (List.mem_of_getElem? (i := 144) rfl)) rfl
theorem w_1670 : Cond.code yX11_next cX11_next 3 (some .int) ∈ y_tb := y_in (mt_7 _ (List.mem_of_getElem? (i := 145) rfl)) rfl
theorem w_1671 : Cond.methodLink RL 155 yX11_search ∈ y_tb := y_in (mt_7 _ (List.mem_of_getElem? (i := 146) rfl)) rfl
theorem w_1672 : Cond.instanceMethod yX11_search ∈ y_tb := y_in (mt_7 _ (List.mem_of_getElem? (i := 147) rfl)) rfl
theorem w_1673 : Cond.selects RX11 yX11_search yX11_search ∈ y_tb := y_in (mt_7 _ (List.mem_of_getElem? (i := 148) rfl)) rfl
theorem w_1674 : Cond.code yX11_search cX11_search 4 (some .int) ∈ y_tb := y_in (mt_7 _ (List.mem_of_getElem? (i := 149) rfl)) rfl
theorem w_1675 : Cond.methodLink RL 159 yX11_difference ∈ y_tb := y_in (mt_7 _ (List.mem_of_getElem? (i := 150) rfl)) rfl
theorem w_1676 : Cond.instanceMethod yX11_difference ∈ y_tb := y_in (mt_7 _ (List.mem_of_getElem? (i := 151) rfl)) rfl
theorem w_1677 : Cond.selects RX11 yX11_difference yX11_difference ∈ y_tb := y_in (mt_7 _ (List.mem_of_getElem? (i := 152) rfl)) rfl
theorem w_1678 : Cond.code yX11_difference cX11_difference 6 (some .int) ∈ y_tb := y_in (mt_7 _ (List.mem_of_getElem? (i := 153) rfl)) rfl
theorem w_1679 : Cond.methodLink RL 162 yX11_front ∈ y_tb := y_in (mt_7 _ (List.mem_of_getElem? (i := 154) rfl)) rfl
theorem w_1680 : Cond.instanceMethod yX11_front ∈ y_tb := y_in (mt_7 _ (List.mem_of_getElem? (i := 155) rfl)) rfl
theorem w_1681 : Cond.selects RX11 yX11_front yX11_front ∈ y_tb := y_in (mt_7 _ (List.mem_of_getElem? (i := 156) rfl)) rfl
theorem w_1682 : Cond.code yX11_front cX11_front 11 (some .int) ∈ y_tb := y_in (mt_7 _ (List.mem_of_getElem? (i := 157) rfl)) rfl
theorem w_1683 : Cond.methodLink RX11 350 yX11_isAhead ∈ y_tb := y_in (mt_7 _ (List.mem_of_getElem? (i := 158) rfl)) rfl
theorem w_1685 : Cond.instanceMethod yX11_isAhead ∈ y_tb := y_in (mt_7 _ (List.mem_of_getElem? (i := 160) rfl)) rfl
theorem w_1686 : Cond.code yX11_isAhead cX11_isAhead 5 (some .boolean) ∈ y_tb := y_in (mt_7 _ (List.mem_of_getElem? (i := 161) rfl)) rfl
theorem w_1687 : Cond.methodLink RL 171 yX11_log ∈ y_tb := y_in (mt_7 _ (List.mem_of_getElem? (i := 162) rfl)) rfl
theorem w_1688 : Cond.instanceMethod yX11_log ∈ y_tb := y_in (mt_7 _ (List.mem_of_getElem? (i := 163) rfl)) rfl
theorem w_1689 : Cond.selects RX11 yX11_log yX11_log ∈ y_tb := y_in (mt_7 _ (List.mem_of_getElem? (i := 164) rfl)) rfl
theorem w_1690 : Cond.code yX11_log cX11_log 3 (some .int) ∈ y_tb := y_in (mt_7 _ (List.mem_of_getElem? (i := 165) rfl)) rfl
theorem w_1691 : Cond.methodLink RL 174 yX11_half ∈ y_tb := y_in (mt_7 _ (List.mem_of_getElem? (i := 166) rfl)) rfl
theorem w_1692 : Cond.instanceMethod yX11_half ∈ y_tb := y_in (mt_7 _ (List.mem_of_getElem? (i := 167) rfl)) rfl
theorem w_1693 : Cond.selects RX11 yX11_half yX11_half ∈ y_tb := y_in (mt_7 _ (List.mem_of_getElem? (i := 168) rfl)) rfl
theorem w_1694 : Cond.code yX11_half cX11_half 5 (some .int) ∈ y_tb := y_in (mt_7 _ (List.mem_of_getElem? (i := 169) rfl)) rfl
theorem w_1695 : Cond.methodLink RL 177 yX11_ahead ∈ y_tb := y_in (mt_7 _ (List.mem_of_getElem? (i := 170) rfl)) rfl
theorem w_1696 : Cond.instanceMethod yX11_ahead ∈ y_tb := y_in (mt_7 _ (List.mem_of_getElem? (i := 171) rfl)) rfl
theorem w_1697 : Cond.selects RX11 yX11_ahead yX11_ahead ∈ y_tb := y_in (mt_7 _ (List.mem_of_getElem? (i := 172) rfl)) rfl
theorem w_1698 : Cond.code yX11_ahead cX11_ahead 5 (some .int) ∈ y_tb := y_in (mt_7 _ (List.mem_of_getElem? (i := 173) rfl)) rfl
theorem w_1699 : Cond.methodLink RX11 354 yX11_flawNow ∈ y_tb := y_in (mt_7 _ (List.mem_of_getElem? (i := 174) rfl)) rfl
theorem w_1701 : Cond.instanceMethod yX11_flawNow ∈ y_tb := y_in (mt_7 _ (List.mem_of_getElem? (i := 176) rfl)) rfl
theorem w_1702 : Cond.code yX11_flawNow cX11_flawNow 5 (some .int) ∈ y_tb := y_in (mt_7 _ (List.mem_of_getElem? (i := 177) rfl)) rfl
theorem w_1703 : Cond.methodLink RX11 357 yX11_leastSure ∈ y_tb := y_in (mt_7 _ (List.mem_of_getElem? (i := 178) rfl)) rfl
theorem w_1705 : Cond.instanceMethod yX11_leastSure ∈ y_tb := y_in (mt_7 _ (List.mem_of_getElem? (i := 180) rfl)) rfl
theorem w_1706 : Cond.code yX11_leastSure cX11_leastSure 5 (some .int) ∈ y_tb := y_in (mt_7 _ (List.mem_of_getElem? (i := 181) rfl)) rfl
theorem w_1707 : Cond.methodLink RX11 360 yX11_laysBack ∈ y_tb := y_in (mt_7 _ (List.mem_of_getElem? (i := 182) rfl)) rfl
theorem w_1709 : Cond.instanceMethod yX11_laysBack ∈ y_tb := y_in (mt_7 _ (List.mem_of_getElem? (i := 184) rfl)) rfl
theorem w_1710 : Cond.code yX11_laysBack cX11_laysBack 2 none ∈ y_tb := y_in (mt_7 _ (List.mem_of_getElem? (i := 185) rfl)) rfl
theorem w_1711 : Cond.methodLink RL 181 yX11_flaw ∈ y_tb := y_in (mt_7 _ (List.mem_of_getElem? (i := 186) rfl)) rfl
theorem w_1712 : Cond.instanceMethod yX11_flaw ∈ y_tb := y_in (mt_7 _ (List.mem_of_getElem? (i := 187) rfl)) rfl
theorem w_1713 : Cond.selects RX11 yX11_flaw yX11_flaw ∈ y_tb := y_in (mt_7 _ (List.mem_of_getElem? (i := 188) rfl)) rfl
theorem w_1714 : Cond.code yX11_flaw cX11_flaw 1 (some .int) ∈ y_tb := y_in (mt_7 _ (List.mem_of_getElem? (i := 189) rfl)) rfl
theorem w_1715 : Cond.methodLink RL 184 yX11_flawBy ∈ y_tb := y_in (mt_7 _ (List.mem_of_getElem? (i := 190) rfl)) rfl
theorem w_1716 : Cond.instanceMethod yX11_flawBy ∈ y_tb := y_in (mt_7 _ (List.mem_of_getElem? (i := 191) rfl)) rfl
theorem w_1717 : Cond.selects RX11 yX11_flawBy yX11_flawBy ∈ y_tb := y_in (mt_7 _ (List.mem_of_getElem? (i := 192) rfl)) rfl
theorem w_1718 : Cond.code yX11_flawBy cX11_flawBy 4 (some .int) ∈ y_tb := y_in (mt_7 _ (List.mem_of_getElem? (i := 193) rfl)) rfl
theorem w_1720 : Cond.methodLink RL 187 yX11_tune ∈ y_tb := y_in (mt_7 _ (List.mem_of_getElem? (i := 195) rfl)) rfl
theorem w_1721 : Cond.instanceMethod yX11_tune ∈ y_tb := y_in (mt_7 _ (List.mem_of_getElem? (i := 196) rfl)) rfl
theorem w_1722 : Cond.selects RX11 yX11_tune yX11_tune ∈ y_tb := y_in (mt_7 _ (List.mem_of_getElem? (i := 197) rfl)) rfl
theorem w_1723 : Cond.code yX11_tune cX11_tune 9 (some .int) ∈ y_tb := y_in (mt_7 _ (List.mem_of_getElem? (i := 198) rfl)) rfl
theorem w_1724 : Cond.methodLink RL 199 yX11_turning ∈ y_tb := y_in (mt_7 _ (List.mem_of_getElem? (i := 199) rfl)) rfl
theorem w_1725 : Cond.instanceMethod yX11_turning ∈ y_tb := y_in (mt_7 _ (List.mem_of_getElem? (i := 200) rfl)) rfl
theorem w_1726 : Cond.selects RX11 yX11_turning yX11_turning ∈ y_tb := y_in (mt_7 _ (List.mem_of_getElem? (i := 201) rfl)) rfl
theorem w_1727 : Cond.code yX11_turning cX11_turning 7 (some .int) ∈ y_tb := y_in (mt_7 _ (List.mem_of_getElem? (i := 202) rfl)) rfl
theorem w_1728 : Cond.methodLink RL 190 yX11_reach ∈ y_tb := y_in (mt_7 _ (List.mem_of_getElem? (i := 203) rfl)) rfl
theorem w_1729 : Cond.instanceMethod yX11_reach ∈ y_tb := y_in (mt_7 _ (List.mem_of_getElem? (i := 204) rfl)) rfl
theorem w_1730 : Cond.selects RX11 yX11_reach yX11_reach ∈ y_tb := y_in (mt_7 _ (List.mem_of_getElem? (i := 205) rfl)) rfl
theorem w_1731 : Cond.code yX11_reach cX11_reach 8 (some .int) ∈ y_tb := y_in (mt_7 _ (List.mem_of_getElem? (i := 206) rfl)) rfl
theorem w_1732 : Cond.methodLink RL 193 yX11_seams ∈ y_tb := y_in (mt_7 _ (List.mem_of_getElem? (i := 207) rfl)) rfl
theorem w_1733 : Cond.instanceMethod yX11_seams ∈ y_tb := y_in (mt_7 _ (List.mem_of_getElem? (i := 208) rfl)) rfl
theorem w_1734 : Cond.selects RX11 yX11_seams yX11_seams ∈ y_tb := y_in (mt_7 _ (List.mem_of_getElem? (i := 209) rfl)) rfl
theorem w_1735 : Cond.code yX11_seams cX11_seams 4 (some .int) ∈ y_tb := y_in (mt_7 _ (List.mem_of_getElem? (i := 210) rfl)) rfl
theorem w_1736 : Cond.methodLink RX11 373 yX11_joint ∈ y_tb := y_in (mt_7 _ (List.mem_of_getElem? (i := 211) rfl)) rfl
theorem w_1738 : Cond.instanceMethod yX11_joint ∈ y_tb := y_in (mt_7 _ (List.mem_of_getElem? (i := 213) rfl)) rfl
theorem w_1739 : Cond.code yX11_joint cX11_joint 6 none ∈ y_tb := y_in (mt_7 _ (List.mem_of_getElem? (i := 214) rfl)) rfl
theorem w_1740 : Cond.methodLink RL 196 yX11_favourite ∈ y_tb := y_in (mt_7 _ (List.mem_of_getElem? (i := 215) rfl)) rfl
theorem w_1741 : Cond.instanceMethod yX11_favourite ∈ y_tb := y_in (mt_7 _ (List.mem_of_getElem? (i := 216) rfl)) rfl
theorem w_1742 : Cond.selects RX11 yX11_favourite yX11_favourite ∈ y_tb := y_in (mt_7 _ (List.mem_of_getElem? (i := 217) rfl)) rfl
theorem w_1743 : Cond.code yX11_favourite cX11_favourite 7 (some .int) ∈ y_tb := y_in (mt_7 _ (List.mem_of_getElem? (i := 218) rfl)) rfl
theorem w_1744 : Cond.methodLink RL 202 yX11_lent ∈ y_tb := y_in (mt_7 _ (List.mem_of_getElem? (i := 219) rfl)) rfl
theorem w_1745 : Cond.instanceMethod yX11_lent ∈ y_tb := y_in (mt_7 _ (List.mem_of_getElem? (i := 220) rfl)) rfl
theorem w_1746 : Cond.selects RX11 yX11_lent yX11_lent ∈ y_tb := y_in (mt_7 _ (List.mem_of_getElem? (i := 221) rfl)) rfl
theorem w_1747 : Cond.code yX11_lent cX11_lent 7 (some .int) ∈ y_tb := y_in (mt_7 _ (List.mem_of_getElem? (i := 222) rfl)) rfl
theorem w_1748 : Cond.methodLink RL 207 yX11_print ∈ y_tb := y_in (mt_7 _ (List.mem_of_getElem? (i := 223) rfl)) rfl
theorem w_1749 : Cond.instanceMethod yX11_print ∈ y_tb := y_in (mt_7 _ (List.mem_of_getElem? (i := 224) rfl)) rfl
theorem w_1750 : Cond.selects RX11 yX11_print yX11_print ∈ y_tb := y_in (mt_7 _ (List.mem_of_getElem? (i := 225) rfl)) rfl
theorem w_1751 : Cond.code yX11_print cX11_print 5 (some .long) ∈ y_tb := y_in (mt_7 _ (List.mem_of_getElem? (i := 226) rfl)) rfl
theorem w_1753 : Cond.methodLink RL 211 yX11_status ∈ y_tb := y_in (mt_7 _ (List.mem_of_getElem? (i := 228) rfl)) rfl
theorem w_1754 : Cond.instanceMethod yX11_status ∈ y_tb := y_in (mt_7 _ (List.mem_of_getElem? (i := 229) rfl)) rfl
theorem w_1755 : Cond.selects RX11 yX11_status yX11_status ∈ y_tb := y_in (mt_7 _ (List.mem_of_getElem? (i := 230) rfl)) rfl
theorem w_1756 : Cond.code yX11_status cX11_status 2 (some .int) ∈ y_tb := y_in (mt_7 _ (List.mem_of_getElem? (i := 231) rfl)) rfl
theorem lay0_0 : u_lay RX0 TX0 0 ∈ y_tb := y_in (mt_2 _ (List.mem_of_getElem? (i := 151) rfl)) rfl
theorem lay0_1 : u_lay RX0 TX0 1 ∈ y_tb := y_in (mt_2 _ (List.mem_of_getElem? (i := 153) rfl)) rfl
theorem lay0_2 : u_lay RX0 TX0 2 ∈ y_tb := y_in (mt_2 _ (List.mem_of_getElem? (i := 155) rfl)) rfl
theorem lay0_3 : u_lay RX0 TX0 3 ∈ y_tb := y_in (mt_2 _ (List.mem_of_getElem? (i := 157) rfl)) rfl
theorem lay0_4 : u_lay RX0 TX0 4 ∈ y_tb := y_in (mt_2 _ (List.mem_of_getElem? (i := 159) rfl)) rfl
theorem iX0 : ∀ w ∈ u_ws RX0 TX0 5, w ∈ y_tb := by
  intro w hw
  obtain ⟨k, hk, rfl⟩ := List.mem_map.mp hw
  have hk2 := List.mem_range.mp hk
  match k, hk2 with
  | 0, _ => exact lay0_0
  | 1, _ => exact lay0_1
  | 2, _ => exact lay0_2
  | 3, _ => exact lay0_3
  | 4, _ => exact lay0_4
  | k + 5, h => exact absurd h (by omega)
theorem lay1_0 : u_lay RX1 TX1 0 ∈ y_tb := y_in (mt_1 _ (List.mem_of_getElem? (i := 215) rfl)) rfl
theorem lay1_1 : u_lay RX1 TX1 1 ∈ y_tb := y_in (mt_1 _ (List.mem_of_getElem? (i := 217) rfl)) rfl
theorem lay1_2 : u_lay RX1 TX1 2 ∈ y_tb := y_in (mt_1 _ (List.mem_of_getElem? (i := 219) rfl)) rfl
theorem iX1 : ∀ w ∈ u_ws RX1 TX1 3, w ∈ y_tb := by
  intro w hw
  obtain ⟨k, hk, rfl⟩ := List.mem_map.mp hw
  have hk2 := List.mem_range.mp hk
  match k, hk2 with
  | 0, _ => exact lay1_0
  | 1, _ => exact lay1_1
  | 2, _ => exact lay1_2
  | k + 3, h => exact absurd h (by omega)
theorem lay2_0 : u_lay RX2 TX2 0 ∈ y_tb := y_in (mt_1 _ (List.mem_of_getElem? (i := 178) rfl)) rfl
theorem lay2_1 : u_lay RX2 TX2 1 ∈ y_tb := y_in (mt_1 _ (List.mem_of_getElem? (i := 180) rfl)) rfl
theorem lay2_2 : u_lay RX2 TX2 2 ∈ y_tb := y_in (mt_1 _ (List.mem_of_getElem? (i := 182) rfl)) rfl
theorem iX2 : ∀ w ∈ u_ws RX2 TX2 3, w ∈ y_tb := by
  intro w hw
  obtain ⟨k, hk, rfl⟩ := List.mem_map.mp hw
  have hk2 := List.mem_range.mp hk
  match k, hk2 with
  | 0, _ => exact lay2_0
  | 1, _ => exact lay2_1
  | 2, _ => exact lay2_2
  | k + 3, h => exact absurd h (by omega)
theorem lay3_0 : u_lay RX3 TX3 0 ∈ y_tb := y_in (mt_2 _ (List.mem_of_getElem? (i := 127) rfl)) rfl
theorem lay3_1 : u_lay RX3 TX3 1 ∈ y_tb := y_in (mt_2 _ (List.mem_of_getElem? (i := 129) rfl)) rfl
theorem lay3_2 : u_lay RX3 TX3 2 ∈ y_tb := y_in (mt_2 _ (List.mem_of_getElem? (i := 131) rfl)) rfl
theorem iX3 : ∀ w ∈ u_ws RX3 TX3 3, w ∈ y_tb := by
  intro w hw
  obtain ⟨k, hk, rfl⟩ := List.mem_map.mp hw
  have hk2 := List.mem_range.mp hk
  match k, hk2 with
  | 0, _ => exact lay3_0
  | 1, _ => exact lay3_1
  | 2, _ => exact lay3_2
  | k + 3, h => exact absurd h (by omega)
theorem lay4_0 : u_lay RX4 TX4 0 ∈ y_tb := y_in (mt_1 _ (List.mem_of_getElem? (i := 151) rfl)) rfl
theorem lay4_1 : u_lay RX4 TX4 1 ∈ y_tb := y_in (mt_1 _ (List.mem_of_getElem? (i := 153) rfl)) rfl
theorem lay4_2 : u_lay RX4 TX4 2 ∈ y_tb := y_in (mt_1 _ (List.mem_of_getElem? (i := 155) rfl)) rfl
theorem lay4_3 : u_lay RX4 TX4 3 ∈ y_tb := y_in (mt_1 _ (List.mem_of_getElem? (i := 157) rfl)) rfl
theorem lay4_4 : u_lay RX4 TX4 4 ∈ y_tb := y_in (mt_1 _ (List.mem_of_getElem? (i := 159) rfl)) rfl
theorem lay4_5 : u_lay RX4 TX4 5 ∈ y_tb := y_in (mt_1 _ (List.mem_of_getElem? (i := 161) rfl)) rfl
theorem lay4_6 : u_lay RX4 TX4 6 ∈ y_tb := y_in (mt_1 _ (List.mem_of_getElem? (i := 163) rfl)) rfl
theorem iX4 : ∀ w ∈ u_ws RX4 TX4 7, w ∈ y_tb := by
  intro w hw
  obtain ⟨k, hk, rfl⟩ := List.mem_map.mp hw
  have hk2 := List.mem_range.mp hk
  match k, hk2 with
  | 0, _ => exact lay4_0
  | 1, _ => exact lay4_1
  | 2, _ => exact lay4_2
  | 3, _ => exact lay4_3
  | 4, _ => exact lay4_4
  | 5, _ => exact lay4_5
  | 6, _ => exact lay4_6
  | k + 7, h => exact absurd h (by omega)
theorem lay5_0 : u_lay RX5 TX5 0 ∈ y_tb := y_in (mt_2 _ (List.mem_of_getElem? (i := 9) rfl)) rfl
theorem lay5_1 : u_lay RX5 TX5 1 ∈ y_tb := y_in (mt_2 _ (List.mem_of_getElem? (i := 11) rfl)) rfl
theorem lay5_2 : u_lay RX5 TX5 2 ∈ y_tb := y_in (mt_2 _ (List.mem_of_getElem? (i := 13) rfl)) rfl
theorem lay5_3 : u_lay RX5 TX5 3 ∈ y_tb := y_in (mt_2 _ (List.mem_of_getElem? (i := 15) rfl)) rfl
theorem lay5_4 : u_lay RX5 TX5 4 ∈ y_tb := y_in (mt_2 _ (List.mem_of_getElem? (i := 17) rfl)) rfl
theorem lay5_5 : u_lay RX5 TX5 5 ∈ y_tb := y_in (mt_2 _ (List.mem_of_getElem? (i := 19) rfl)) rfl
theorem lay5_6 : u_lay RX5 TX5 6 ∈ y_tb := y_in (mt_2 _ (List.mem_of_getElem? (i := 21) rfl)) rfl
theorem lay5_7 : u_lay RX5 TX5 7 ∈ y_tb := y_in (mt_2 _ (List.mem_of_getElem? (i := 23) rfl)) rfl
theorem lay5_8 : u_lay RX5 TX5 8 ∈ y_tb := y_in (mt_2 _ (List.mem_of_getElem? (i := 25) rfl)) rfl
theorem lay5_9 : u_lay RX5 TX5 9 ∈ y_tb := y_in (mt_2 _ (List.mem_of_getElem? (i := 27) rfl)) rfl
theorem iX5 : ∀ w ∈ u_ws RX5 TX5 10, w ∈ y_tb := by
  intro w hw
  obtain ⟨k, hk, rfl⟩ := List.mem_map.mp hw
  have hk2 := List.mem_range.mp hk
  match k, hk2 with
  | 0, _ => exact lay5_0
  | 1, _ => exact lay5_1
  | 2, _ => exact lay5_2
  | 3, _ => exact lay5_3
  | 4, _ => exact lay5_4
  | 5, _ => exact lay5_5
  | 6, _ => exact lay5_6
  | 7, _ => exact lay5_7
  | 8, _ => exact lay5_8
  | 9, _ => exact lay5_9
  | k + 10, h => exact absurd h (by omega)
theorem lay6_0 : u_lay RX6 TX6 0 ∈ y_tb := y_in (mt_2 _ (List.mem_of_getElem? (i := 76) rfl)) rfl
theorem lay6_1 : u_lay RX6 TX6 1 ∈ y_tb := y_in (mt_2 _ (List.mem_of_getElem? (i := 78) rfl)) rfl
theorem lay6_2 : u_lay RX6 TX6 2 ∈ y_tb := y_in (mt_2 _ (List.mem_of_getElem? (i := 80) rfl)) rfl
theorem lay6_3 : u_lay RX6 TX6 3 ∈ y_tb := y_in (mt_2 _ (List.mem_of_getElem? (i := 82) rfl)) rfl
theorem lay6_4 : u_lay RX6 TX6 4 ∈ y_tb := y_in (mt_2 _ (List.mem_of_getElem? (i := 84) rfl)) rfl
theorem lay6_5 : u_lay RX6 TX6 5 ∈ y_tb := y_in (mt_2 _ (List.mem_of_getElem? (i := 86) rfl)) rfl
theorem lay6_6 : u_lay RX6 TX6 6 ∈ y_tb := y_in (mt_2 _ (List.mem_of_getElem? (i := 88) rfl)) rfl
theorem lay6_7 : u_lay RX6 TX6 7 ∈ y_tb := y_in (mt_2 _ (List.mem_of_getElem? (i := 90) rfl)) rfl
theorem lay6_8 : u_lay RX6 TX6 8 ∈ y_tb := y_in (mt_2 _ (List.mem_of_getElem? (i := 92) rfl)) rfl
theorem lay6_9 : u_lay RX6 TX6 9 ∈ y_tb := y_in (mt_2 _ (List.mem_of_getElem? (i := 94) rfl)) rfl
theorem lay6_10 : u_lay RX6 TX6 10 ∈ y_tb := y_in (mt_2 _ (List.mem_of_getElem? (i := 96) rfl)) rfl
theorem lay6_11 : u_lay RX6 TX6 11 ∈ y_tb := y_in (mt_2 _ (List.mem_of_getElem? (i := 98) rfl)) rfl
theorem lay6_12 : u_lay RX6 TX6 12 ∈ y_tb := y_in (mt_2 _ (List.mem_of_getElem? (i := 100) rfl)) rfl
theorem lay6_13 : u_lay RX6 TX6 13 ∈ y_tb := y_in (mt_2 _ (List.mem_of_getElem? (i := 102) rfl)) rfl
theorem lay6_14 : u_lay RX6 TX6 14 ∈ y_tb := y_in (mt_2 _ (List.mem_of_getElem? (i := 104) rfl)) rfl
theorem lay6_15 : u_lay RX6 TX6 15 ∈ y_tb := y_in (mt_2 _ (List.mem_of_getElem? (i := 106) rfl)) rfl
theorem lay6_16 : u_lay RX6 TX6 16 ∈ y_tb := y_in (mt_2 _ (List.mem_of_getElem? (i := 108) rfl)) rfl
theorem lay6_17 : u_lay RX6 TX6 17 ∈ y_tb := y_in (mt_2 _ (List.mem_of_getElem? (i := 110) rfl)) rfl
theorem lay6_18 : u_lay RX6 TX6 18 ∈ y_tb := y_in (mt_2 _ (List.mem_of_getElem? (i := 112) rfl)) rfl
theorem lay6_19 : u_lay RX6 TX6 19 ∈ y_tb := y_in (mt_2 _ (List.mem_of_getElem? (i := 114) rfl)) rfl
theorem iX6 : ∀ w ∈ u_ws RX6 TX6 20, w ∈ y_tb := by
  intro w hw
  obtain ⟨k, hk, rfl⟩ := List.mem_map.mp hw
  have hk2 := List.mem_range.mp hk
  match k, hk2 with
  | 0, _ => exact lay6_0
  | 1, _ => exact lay6_1
  | 2, _ => exact lay6_2
  | 3, _ => exact lay6_3
  | 4, _ => exact lay6_4
  | 5, _ => exact lay6_5
  | 6, _ => exact lay6_6
  | 7, _ => exact lay6_7
  | 8, _ => exact lay6_8
  | 9, _ => exact lay6_9
  | 10, _ => exact lay6_10
  | 11, _ => exact lay6_11
  | 12, _ => exact lay6_12
  | 13, _ => exact lay6_13
  | 14, _ => exact lay6_14
  | 15, _ => exact lay6_15
  | 16, _ => exact lay6_16
  | 17, _ => exact lay6_17
  | 18, _ => exact lay6_18
  | 19, _ => exact lay6_19
  | k + 20, h => exact absurd h (by omega)
theorem lay7_0 : u_lay RX7 TX7 0 ∈ y_tb := y_in (mt_1 _ (List.mem_of_getElem? (i := 101) rfl)) rfl
theorem lay7_1 : u_lay RX7 TX7 1 ∈ y_tb := y_in (mt_1 _ (List.mem_of_getElem? (i := 103) rfl)) rfl
theorem lay7_2 : u_lay RX7 TX7 2 ∈ y_tb := y_in (mt_1 _ (List.mem_of_getElem? (i := 105) rfl)) rfl
theorem lay7_3 : u_lay RX7 TX7 3 ∈ y_tb := y_in (mt_1 _ (List.mem_of_getElem? (i := 107) rfl)) rfl
theorem lay7_4 : u_lay RX7 TX7 4 ∈ y_tb := y_in (mt_1 _ (List.mem_of_getElem? (i := 109) rfl)) rfl
theorem lay7_5 : u_lay RX7 TX7 5 ∈ y_tb := y_in (mt_1 _ (List.mem_of_getElem? (i := 111) rfl)) rfl
theorem lay7_6 : u_lay RX7 TX7 6 ∈ y_tb := y_in (mt_1 _ (List.mem_of_getElem? (i := 113) rfl)) rfl
theorem iX7 : ∀ w ∈ u_ws RX7 TX7 7, w ∈ y_tb := by
  intro w hw
  obtain ⟨k, hk, rfl⟩ := List.mem_map.mp hw
  have hk2 := List.mem_range.mp hk
  match k, hk2 with
  | 0, _ => exact lay7_0
  | 1, _ => exact lay7_1
  | 2, _ => exact lay7_2
  | 3, _ => exact lay7_3
  | 4, _ => exact lay7_4
  | 5, _ => exact lay7_5
  | 6, _ => exact lay7_6
  | k + 7, h => exact absurd h (by omega)
theorem lay8_0 : u_lay RX8 TX8 0 ∈ y_tb := y_in (mt_1 _ (List.mem_of_getElem? (i := 206) rfl)) rfl
theorem lay8_1 : u_lay RX8 TX8 1 ∈ y_tb := y_in (mt_1 _ (List.mem_of_getElem? (i := 208) rfl)) rfl
theorem iX8 : ∀ w ∈ u_ws RX8 TX8 2, w ∈ y_tb := by
  intro w hw
  obtain ⟨k, hk, rfl⟩ := List.mem_map.mp hw
  have hk2 := List.mem_range.mp hk
  match k, hk2 with
  | 0, _ => exact lay8_0
  | 1, _ => exact lay8_1
  | k + 2, h => exact absurd h (by omega)
theorem lay9_0 : u_lay RX9 TX9 0 ∈ y_tb := y_in (mt_1 _ (List.mem_of_getElem? (i := 50) rfl)) rfl
theorem lay9_1 : u_lay RX9 TX9 1 ∈ y_tb := y_in (mt_1 _ (List.mem_of_getElem? (i := 52) rfl)) rfl
theorem lay9_2 : u_lay RX9 TX9 2 ∈ y_tb := y_in (mt_1 _ (List.mem_of_getElem? (i := 54) rfl)) rfl
theorem lay9_3 : u_lay RX9 TX9 3 ∈ y_tb := y_in (mt_1 _ (List.mem_of_getElem? (i := 56) rfl)) rfl
theorem lay9_4 : u_lay RX9 TX9 4 ∈ y_tb := y_in (mt_1 _ (List.mem_of_getElem? (i := 58) rfl)) rfl
theorem lay9_5 : u_lay RX9 TX9 5 ∈ y_tb := y_in (mt_1 _ (List.mem_of_getElem? (i := 60) rfl)) rfl
theorem lay9_6 : u_lay RX9 TX9 6 ∈ y_tb := y_in (mt_1 _ (List.mem_of_getElem? (i := 62) rfl)) rfl
theorem lay9_7 : u_lay RX9 TX9 7 ∈ y_tb := y_in (mt_1 _ (List.mem_of_getElem? (i := 64) rfl)) rfl
theorem lay9_8 : u_lay RX9 TX9 8 ∈ y_tb := y_in (mt_1 _ (List.mem_of_getElem? (i := 66) rfl)) rfl
theorem lay9_9 : u_lay RX9 TX9 9 ∈ y_tb := y_in (mt_1 _ (List.mem_of_getElem? (i := 68) rfl)) rfl
theorem iX9 : ∀ w ∈ u_ws RX9 TX9 10, w ∈ y_tb := by
  intro w hw
  obtain ⟨k, hk, rfl⟩ := List.mem_map.mp hw
  have hk2 := List.mem_range.mp hk
  match k, hk2 with
  | 0, _ => exact lay9_0
  | 1, _ => exact lay9_1
  | 2, _ => exact lay9_2
  | 3, _ => exact lay9_3
  | 4, _ => exact lay9_4
  | 5, _ => exact lay9_5
  | 6, _ => exact lay9_6
  | 7, _ => exact lay9_7
  | 8, _ => exact lay9_8
  | 9, _ => exact lay9_9
  | k + 10, h => exact absurd h (by omega)
theorem lay10_0 : u_lay RX10 TX10 0 ∈ y_tb := y_in (mt_2 _ (List.mem_of_getElem? (i := 178) rfl)) rfl
theorem lay10_1 : u_lay RX10 TX10 1 ∈ y_tb := y_in (mt_2 _ (List.mem_of_getElem? (i := 180) rfl)) rfl
theorem lay10_2 : u_lay RX10 TX10 2 ∈ y_tb := y_in (mt_2 _ (List.mem_of_getElem? (i := 182) rfl)) rfl
theorem lay10_3 : u_lay RX10 TX10 3 ∈ y_tb := y_in (mt_2 _ (List.mem_of_getElem? (i := 184) rfl)) rfl
theorem lay10_4 : u_lay RX10 TX10 4 ∈ y_tb := y_in (mt_2 _ (List.mem_of_getElem? (i := 186) rfl)) rfl
theorem lay10_5 : u_lay RX10 TX10 5 ∈ y_tb := y_in (mt_2 _ (List.mem_of_getElem? (i := 188) rfl)) rfl
theorem lay10_6 : u_lay RX10 TX10 6 ∈ y_tb := y_in (mt_2 _ (List.mem_of_getElem? (i := 190) rfl)) rfl
theorem lay10_7 : u_lay RX10 TX10 7 ∈ y_tb := y_in (mt_2 _ (List.mem_of_getElem? (i := 192) rfl)) rfl
theorem lay10_8 : u_lay RX10 TX10 8 ∈ y_tb := y_in (mt_2 _ (List.mem_of_getElem? (i := 194) rfl)) rfl
theorem lay10_9 : u_lay RX10 TX10 9 ∈ y_tb := y_in (mt_2 _ (List.mem_of_getElem? (i := 196) rfl)) rfl
theorem lay10_10 : u_lay RX10 TX10 10 ∈ y_tb := y_in (mt_2 _ (List.mem_of_getElem? (i := 198) rfl)) rfl
theorem lay10_11 : u_lay RX10 TX10 11 ∈ y_tb := y_in (mt_2 _ (List.mem_of_getElem? (i := 200) rfl)) rfl
theorem lay10_12 : u_lay RX10 TX10 12 ∈ y_tb := y_in (mt_2 _ (List.mem_of_getElem? (i := 202) rfl)) rfl
theorem lay10_13 : u_lay RX10 TX10 13 ∈ y_tb := y_in (mt_2 _ (List.mem_of_getElem? (i := 204) rfl)) rfl
theorem lay10_14 : u_lay RX10 TX10 14 ∈ y_tb := y_in (mt_2 _ (List.mem_of_getElem? (i := 206) rfl)) rfl
theorem lay10_15 : u_lay RX10 TX10 15 ∈ y_tb := y_in (mt_2 _ (List.mem_of_getElem? (i := 208) rfl)) rfl
theorem iX10 : ∀ w ∈ u_ws RX10 TX10 16, w ∈ y_tb := by
  intro w hw
  obtain ⟨k, hk, rfl⟩ := List.mem_map.mp hw
  have hk2 := List.mem_range.mp hk
  match k, hk2 with
  | 0, _ => exact lay10_0
  | 1, _ => exact lay10_1
  | 2, _ => exact lay10_2
  | 3, _ => exact lay10_3
  | 4, _ => exact lay10_4
  | 5, _ => exact lay10_5
  | 6, _ => exact lay10_6
  | 7, _ => exact lay10_7
  | 8, _ => exact lay10_8
  | 9, _ => exact lay10_9
  | 10, _ => exact lay10_10
  | 11, _ => exact lay10_11
  | 12, _ => exact lay10_12
  | 13, _ => exact lay10_13
  | 14, _ => exact lay10_14
  | 15, _ => exact lay10_15
  | k + 16, h => exact absurd h (by omega)
theorem lay11_0 : u_lay RX11 TX11 0 ∈ y_tb := y_in (mt_6 _ (List.mem_of_getElem? (i := 6) rfl)) rfl
theorem lay11_1 : u_lay RX11 TX11 1 ∈ y_tb := y_in (mt_6 _ (List.mem_of_getElem? (i := 8) rfl)) rfl
theorem lay11_2 : u_lay RX11 TX11 2 ∈ y_tb := y_in (mt_6 _ (List.mem_of_getElem? (i := 10) rfl)) rfl
theorem lay11_3 : u_lay RX11 TX11 3 ∈ y_tb := y_in (mt_6 _ (List.mem_of_getElem? (i := 12) rfl)) rfl
theorem lay11_4 : u_lay RX11 TX11 4 ∈ y_tb := y_in (mt_6 _ (List.mem_of_getElem? (i := 14) rfl)) rfl
theorem lay11_5 : u_lay RX11 TX11 5 ∈ y_tb := y_in (mt_6 _ (List.mem_of_getElem? (i := 16) rfl)) rfl
theorem lay11_6 : u_lay RX11 TX11 6 ∈ y_tb := y_in (mt_6 _ (List.mem_of_getElem? (i := 18) rfl)) rfl
theorem lay11_7 : u_lay RX11 TX11 7 ∈ y_tb := y_in (mt_6 _ (List.mem_of_getElem? (i := 20) rfl)) rfl
theorem lay11_8 : u_lay RX11 TX11 8 ∈ y_tb := y_in (mt_6 _ (List.mem_of_getElem? (i := 22) rfl)) rfl
theorem lay11_9 : u_lay RX11 TX11 9 ∈ y_tb := y_in (mt_6 _ (List.mem_of_getElem? (i := 24) rfl)) rfl
theorem lay11_10 : u_lay RX11 TX11 10 ∈ y_tb := y_in (mt_6 _ (List.mem_of_getElem? (i := 26) rfl)) rfl
theorem lay11_11 : u_lay RX11 TX11 11 ∈ y_tb := y_in (mt_6 _ (List.mem_of_getElem? (i := 28) rfl)) rfl
theorem lay11_12 : u_lay RX11 TX11 12 ∈ y_tb := y_in (mt_6 _ (List.mem_of_getElem? (i := 30) rfl)) rfl
theorem lay11_13 : u_lay RX11 TX11 13 ∈ y_tb := y_in (mt_6 _ (List.mem_of_getElem? (i := 32) rfl)) rfl
theorem lay11_14 : u_lay RX11 TX11 14 ∈ y_tb := y_in (mt_6 _ (List.mem_of_getElem? (i := 34) rfl)) rfl
theorem lay11_15 : u_lay RX11 TX11 15 ∈ y_tb := y_in (mt_6 _ (List.mem_of_getElem? (i := 36) rfl)) rfl
theorem lay11_16 : u_lay RX11 TX11 16 ∈ y_tb := y_in (mt_6 _ (List.mem_of_getElem? (i := 38) rfl)) rfl
theorem lay11_17 : u_lay RX11 TX11 17 ∈ y_tb := y_in (mt_6 _ (List.mem_of_getElem? (i := 40) rfl)) rfl
theorem lay11_18 : u_lay RX11 TX11 18 ∈ y_tb := y_in (mt_6 _ (List.mem_of_getElem? (i := 42) rfl)) rfl
theorem lay11_19 : u_lay RX11 TX11 19 ∈ y_tb := y_in (mt_6 _ (List.mem_of_getElem? (i := 44) rfl)) rfl
theorem lay11_20 : u_lay RX11 TX11 20 ∈ y_tb := y_in (mt_6 _ (List.mem_of_getElem? (i := 46) rfl)) rfl
theorem lay11_21 : u_lay RX11 TX11 21 ∈ y_tb := y_in (mt_6 _ (List.mem_of_getElem? (i := 48) rfl)) rfl
theorem lay11_22 : u_lay RX11 TX11 22 ∈ y_tb := y_in (mt_6 _ (List.mem_of_getElem? (i := 50) rfl)) rfl
theorem lay11_23 : u_lay RX11 TX11 23 ∈ y_tb := y_in (mt_6 _ (List.mem_of_getElem? (i := 52) rfl)) rfl
theorem lay11_24 : u_lay RX11 TX11 24 ∈ y_tb := y_in (mt_6 _ (List.mem_of_getElem? (i := 54) rfl)) rfl
theorem lay11_25 : u_lay RX11 TX11 25 ∈ y_tb := y_in (mt_6 _ (List.mem_of_getElem? (i := 56) rfl)) rfl
theorem lay11_26 : u_lay RX11 TX11 26 ∈ y_tb := y_in (mt_6 _ (List.mem_of_getElem? (i := 58) rfl)) rfl
theorem lay11_27 : u_lay RX11 TX11 27 ∈ y_tb := y_in (mt_6 _ (List.mem_of_getElem? (i := 60) rfl)) rfl
theorem lay11_28 : u_lay RX11 TX11 28 ∈ y_tb := y_in (mt_6 _ (List.mem_of_getElem? (i := 62) rfl)) rfl
theorem lay11_29 : u_lay RX11 TX11 29 ∈ y_tb := y_in (mt_6 _ (List.mem_of_getElem? (i := 64) rfl)) rfl
theorem lay11_30 : u_lay RX11 TX11 30 ∈ y_tb := y_in (mt_6 _ (List.mem_of_getElem? (i := 66) rfl)) rfl
theorem lay11_31 : u_lay RX11 TX11 31 ∈ y_tb := y_in (mt_6 _ (List.mem_of_getElem? (i := 68) rfl)) rfl
theorem lay11_32 : u_lay RX11 TX11 32 ∈ y_tb := y_in (mt_6 _ (List.mem_of_getElem? (i := 70) rfl)) rfl
theorem lay11_33 : u_lay RX11 TX11 33 ∈ y_tb := y_in (mt_6 _ (List.mem_of_getElem? (i := 72) rfl)) rfl
theorem lay11_34 : u_lay RX11 TX11 34 ∈ y_tb := y_in (mt_6 _ (List.mem_of_getElem? (i := 74) rfl)) rfl
theorem lay11_35 : u_lay RX11 TX11 35 ∈ y_tb := y_in (mt_6 _ (List.mem_of_getElem? (i := 76) rfl)) rfl
theorem lay11_36 : u_lay RX11 TX11 36 ∈ y_tb := y_in (mt_6 _ (List.mem_of_getElem? (i := 78) rfl)) rfl
theorem lay11_37 : u_lay RX11 TX11 37 ∈ y_tb := y_in (mt_6 _ (List.mem_of_getElem? (i := 80) rfl)) rfl
theorem lay11_38 : u_lay RX11 TX11 38 ∈ y_tb := y_in (mt_6 _ (List.mem_of_getElem? (i := 82) rfl)) rfl
theorem lay11_39 : u_lay RX11 TX11 39 ∈ y_tb := y_in (mt_6 _ (List.mem_of_getElem? (i := 84) rfl)) rfl
theorem lay11_40 : u_lay RX11 TX11 40 ∈ y_tb := y_in (mt_6 _ (List.mem_of_getElem? (i := 86) rfl)) rfl
theorem lay11_41 : u_lay RX11 TX11 41 ∈ y_tb := y_in (mt_6 _ (List.mem_of_getElem? (i := 88) rfl)) rfl
theorem lay11_42 : u_lay RX11 TX11 42 ∈ y_tb := y_in (mt_6 _ (List.mem_of_getElem? (i := 90) rfl)) rfl
theorem lay11_43 : u_lay RX11 TX11 43 ∈ y_tb := y_in (mt_6 _ (List.mem_of_getElem? (i := 92) rfl)) rfl
theorem iX11 : ∀ w ∈ u_ws RX11 TX11 44, w ∈ y_tb := by
  intro w hw
  obtain ⟨k, hk, rfl⟩ := List.mem_map.mp hw
  have hk2 := List.mem_range.mp hk
  match k, hk2 with
  | 0, _ => exact lay11_0
  | 1, _ => exact lay11_1
  | 2, _ => exact lay11_2
  | 3, _ => exact lay11_3
  | 4, _ => exact lay11_4
  | 5, _ => exact lay11_5
  | 6, _ => exact lay11_6
  | 7, _ => exact lay11_7
  | 8, _ => exact lay11_8
  | 9, _ => exact lay11_9
  | 10, _ => exact lay11_10
  | 11, _ => exact lay11_11
  | 12, _ => exact lay11_12
  | 13, _ => exact lay11_13
  | 14, _ => exact lay11_14
  | 15, _ => exact lay11_15
  | 16, _ => exact lay11_16
  | 17, _ => exact lay11_17
  | 18, _ => exact lay11_18
  | 19, _ => exact lay11_19
  | 20, _ => exact lay11_20
  | 21, _ => exact lay11_21
  | 22, _ => exact lay11_22
  | 23, _ => exact lay11_23
  | 24, _ => exact lay11_24
  | 25, _ => exact lay11_25
  | 26, _ => exact lay11_26
  | 27, _ => exact lay11_27
  | 28, _ => exact lay11_28
  | 29, _ => exact lay11_29
  | 30, _ => exact lay11_30
  | 31, _ => exact lay11_31
  | 32, _ => exact lay11_32
  | 33, _ => exact lay11_33
  | 34, _ => exact lay11_34
  | 35, _ => exact lay11_35
  | 36, _ => exact lay11_36
  | 37, _ => exact lay11_37
  | 38, _ => exact lay11_38
  | 39, _ => exact lay11_39
  | 40, _ => exact lay11_40
  | 41, _ => exact lay11_41
  | 42, _ => exact lay11_42
  | 43, _ => exact lay11_43
  | k + 44, h => exact absurd h (by omega)
theorem qX0_init : yCalI yX0_init cX0_init 3 2 := ⟨w_462, w_463, w_97, rfl, by decide, by decide, by decide +kernel⟩
theorem qX0_makeHalves : yCalV yX0_makeHalves cX0_makeHalves 3 (some .int) 2 := ⟨w_818, w_819, w_820, w_97, by decide, by decide, by decide +kernel⟩
theorem qX0_run : yCalV yX0_run cX0_run 7 (some .int) 5 := ⟨w_814, w_815, w_816, w_97, by decide, by decide, by decide +kernel⟩
theorem qX0_repeat : yCalV yX0_repeat cX0_repeat 7 (some .int) 5 := ⟨w_845, w_10, w_846, w_97, by decide, by decide, by decide +kernel⟩
theorem qX0_fillOnce : yCalV yX0_fillOnce cX0_fillOnce 9 (some .boolean) 4 := ⟨w_849, w_11, w_850, w_97, by decide, by decide, by decide +kernel⟩
theorem qX0_copyPatch : yCalV yX0_copyPatch cX0_copyPatch 13 (some .int) 3 := ⟨w_955, w_18, w_956, w_97, by decide, by decide, by decide +kernel⟩
theorem qX1_init : yCalI yX1_init cX1_init 2 0 := ⟨w_273, w_274, w_92, rfl, by decide, by decide, by decide +kernel⟩
theorem qX1_clear : yCalV yX1_clear cX1_clear 1 none 0 := ⟨w_718, w_719, w_720, w_92, by decide, by decide, by decide +kernel⟩
theorem qX1_prepare : yCalV yX1_prepare cX1_prepare 4 none 2 := ⟨w_786, w_787, w_788, w_92, by decide, by decide, by decide +kernel⟩
theorem qX1_commitIfAny : yCalV yX1_commitIfAny cX1_commitIfAny 2 (some .int) 1 := ⟨w_790, w_791, w_792, w_92, by decide, by decide, by decide +kernel⟩
theorem qX1_takeBack : yCalV yX1_takeBack cX1_takeBack 4 (some .boolean) 2 := ⟨w_577, w_578, w_579, w_92, by decide, by decide, by decide +kernel⟩
theorem qX2_init : yCalI yX2_init cX2_init 1 0 := ⟨w_254, w_255, w_91, rfl, by decide, by decide, by decide +kernel⟩
theorem qX2_clear : yCalV yX2_clear cX2_clear 1 none 0 := ⟨w_714, w_715, w_716, w_91, by decide, by decide, by decide +kernel⟩
theorem qX2_kept : yCalV yX2_kept cX2_kept 1 (some .int) 0 := ⟨w_1117, w_1118, w_1119, w_91, by decide, by decide, by decide +kernel⟩
theorem qX2_record : yCalV yX2_record cX2_record 6 none 4 := ⟨w_967, w_968, w_969, w_91, by decide, by decide, by decide +kernel⟩
theorem qX2_entry : yCalV yX2_entry cX2_entry 3 (some .int) 2 := ⟨w_1122, w_1123, w_1124, w_91, by decide, by decide, by decide +kernel⟩
theorem qX2_countWay : yCalV yX2_countWay cX2_countWay 4 (some .int) 1 := ⟨w_1206, w_1207, w_1208, w_91, by decide, by decide, by decide +kernel⟩
theorem qX2_copyFrom : yCalV yX2_copyFrom cX2_copyFrom 2 none 1 := ⟨w_582, w_583, w_584, w_91, by decide, by decide, by decide +kernel⟩
theorem qX3_init : yCalI yX3_init cX3_init 1 0 := ⟨w_445, w_446, w_96, rfl, by decide, by decide, by decide +kernel⟩
theorem qX3_number : yCalV yX3_number cX3_number 4 (some .int) 1 := ⟨w_998, w_999, w_1000, w_96, by decide, by decide, by decide +kernel⟩
theorem qX3_spread : yCalV yX3_spread cX3_spread 10 none 3 := ⟨w_1005, w_20, w_1006, w_96, by decide, by decide, by decide +kernel⟩
theorem qX3_join : yCalV yX3_join cX3_join 3 none 2 := ⟨w_1009, w_21, w_1010, w_96, by decide, by decide, by decide +kernel⟩
theorem qX3_isBeside : yCalV yX3_isBeside cX3_isBeside 8 (some .boolean) 4 := ⟨w_1105, w_1106, w_1107, w_96, by decide, by decide, by decide +kernel⟩
theorem qX4_init : yCalI yX4_init cX4_init 1 0 := ⟨w_204, w_205, w_89, rfl, by decide, by decide, by decide +kernel⟩
theorem qX4_dots : yCalV yX4_dots cX4_dots 1 (some .int) 0 := ⟨w_561, w_562, w_563, w_89, by decide, by decide, by decide +kernel⟩
theorem qX4_has : yCalV yX4_has cX4_has 3 (some .boolean) 2 := ⟨w_757, w_758, w_759, w_89, by decide, by decide, by decide +kernel⟩
theorem qX4_at : yCalV yX4_at cX4_at 3 (some .int) 2 := ⟨w_795, w_796, w_797, w_89, by decide, by decide, by decide +kernel⟩
theorem qX4_xOf : yCalV yX4_xOf cX4_xOf 2 (some .int) 1 := ⟨w_830, w_831, w_832, w_89, by decide, by decide, by decide +kernel⟩
theorem qX4_yOf : yCalV yX4_yOf cX4_yOf 2 (some .int) 1 := ⟨w_834, w_835, w_836, w_89, by decide, by decide, by decide +kernel⟩
theorem qX4_isKnown : yCalV yX4_isKnown cX4_isKnown 3 (some .boolean) 2 := ⟨w_781, w_782, w_783, w_89, by decide, by decide, by decide +kernel⟩
theorem qX4_isMissing : yCalV yX4_isMissing cX4_isMissing 3 (some .boolean) 2 := ⟨w_863, w_864, w_865, w_89, by decide, by decide, by decide +kernel⟩
theorem qX4_isOnFront : yCalV yX4_isOnFront cX4_isOnFront 3 (some .boolean) 2 := ⟨w_859, w_860, w_861, w_89, by decide, by decide, by decide +kernel⟩
theorem qX4_countMissing : yCalV yX4_countMissing cX4_countMissing 3 (some .int) 0 := ⟨w_569, w_570, w_571, w_89, by decide, by decide, by decide +kernel⟩
theorem qX4_countFilledIn : yCalV yX4_countFilledIn cX4_countFilledIn 3 (some .int) 0 := ⟨w_987, w_988, w_989, w_89, by decide, by decide, by decide +kernel⟩
theorem qX4_give : yCalV yX4_give cX4_give 3 none 2 := ⟨w_710, w_711, w_712, w_89, by decide, by decide, by decide +kernel⟩
theorem qX4_fillIn : yCalV yX4_fillIn cX4_fillIn 6 none 5 := ⟨w_963, w_964, w_965, w_89, by decide, by decide, by decide +kernel⟩
theorem qX4_load : yCalV yX4_load cX4_load 5 none 3 := ⟨w_706, w_707, w_708, w_89, by decide, by decide, by decide +kernel⟩
theorem qX4_copyFrom : yCalV yX4_copyFrom cX4_copyFrom 3 none 1 := ⟨w_557, w_558, w_559, w_89, by decide, by decide, by decide +kernel⟩
theorem qX4_hasHalf : yCalV yX4_hasHalf cX4_hasHalf 1 (some .boolean) 0 := ⟨w_822, w_823, w_824, w_89, by decide, by decide, by decide +kernel⟩
theorem qX4_becomeHalfOf : yCalV yX4_becomeHalfOf cX4_becomeHalfOf 3 none 1 := ⟨w_826, w_827, w_828, w_89, by decide, by decide, by decide +kernel⟩
theorem qX4_meanOfFour : yCalV yX4_meanOfFour cX4_meanOfFour 7 (some .int) 2 := ⟨w_839, w_9, w_840, w_89, by decide, by decide, by decide +kernel⟩
theorem qX5_init : yCalI yX5_init cX5_init 1 0 := ⟨w_310, w_311, w_94, rfl, by decide, by decide, by decide +kernel⟩
theorem qX5_measure : yCalV yX5_measure cX5_measure 6 none 4 := ⟨w_867, w_868, w_869, w_94, by decide, by decide, by decide +kernel⟩
theorem qX5_measureSteady : yCalV yX5_measureSteady cX5_measureSteady 11 none 4 := ⟨w_872, w_12, w_873, w_94, by decide, by decide, by decide +kernel⟩
theorem qX5_measureSlope : yCalV yX5_measureSlope cX5_measureSlope 16 none 4 := ⟨w_880, w_13, w_881, w_94, by decide, by decide, by decide +kernel⟩
theorem qX5_lineUp : yCalV yX5_lineUp cX5_lineUp 6 none 2 := ⟨w_852, w_853, w_854, w_94, by decide, by decide, by decide +kernel⟩
theorem qX5_foremost : yCalV yX5_foremost cX5_foremost 3 (some .int) 0 := ⟨w_887, w_888, w_889, w_94, by decide, by decide, by decide +kernel⟩
theorem qX5_placeOf : yCalV yX5_placeOf cX5_placeOf 5 (some .int) 1 := ⟨w_1081, w_1082, w_1083, w_94, by decide, by decide, by decide +kernel⟩
theorem qX6_init : yCalI yX6_init cX6_init 3 2 := ⟨w_358, w_359, w_95, rfl, by decide, by decide, by decide +kernel⟩
theorem qX6_aim : yCalV yX6_aim cX6_aim 5 none 4 := ⟨w_894, w_895, w_896, w_95, by decide, by decide, by decide +kernel⟩
theorem qX6_countUnusable : yCalV yX6_countUnusable cX6_countUnusable 8 none 0 := ⟨w_899, w_14, w_900, w_95, by decide, by decide, by decide +kernel⟩
theorem qX6_gatherKnown : yCalV yX6_gatherKnown cX6_gatherKnown 7 none 0 := ⟨w_904, w_15, w_905, w_95, by decide, by decide, by decide +kernel⟩
theorem qX6_placeStep : yCalV yX6_placeStep cX6_placeStep 6 (some .int) 3 := ⟨w_908, w_909, w_910, w_95, by decide, by decide, by decide +kernel⟩
theorem qX6_reaches : yCalV yX6_reaches cX6_reaches 3 (some .boolean) 2 := ⟨w_1065, w_1066, w_1067, w_95, by decide, by decide, by decide +kernel⟩
theorem qX6_isWholeAndUsable : yCalV yX6_isWholeAndUsable cX6_isWholeAndUsable 8 (some .boolean) 2 := ⟨w_933, w_934, w_935, w_95, by decide, by decide, by decide +kernel⟩
theorem qX6_scanInReach : yCalV yX6_scanInReach cX6_scanInReach 2 none 0 := ⟨w_950, w_951, w_952, w_95, by decide, by decide, by decide +kernel⟩
theorem qX6_scanGuided : yCalV yX6_scanGuided cX6_scanGuided 7 none 1 := ⟨w_920, w_921, w_922, w_95, by decide, by decide, by decide +kernel⟩
theorem qX6_scan : yCalV yX6_scan cX6_scan 11 none 4 := ⟨w_928, w_16, w_929, w_95, by decide, by decide, by decide +kernel⟩
theorem qX6_ask : yCalV yX6_ask cX6_ask 5 none 2 := ⟨w_938, w_17, w_939, w_95, by decide, by decide, by decide +kernel⟩
theorem qX6_compare : yCalV yX6_compare cX6_compare 7 none 2 := ⟨w_942, w_943, w_944, w_95, by decide, by decide, by decide +kernel⟩
theorem qX6_reckon : yCalV yX6_reckon cX6_reckon 8 (some .int) 3 := ⟨w_946, w_947, w_948, w_95, by decide, by decide, by decide +kernel⟩
theorem qX6_reachTo : yCalV yX6_reachTo cX6_reachTo 4 (some .int) 1 := ⟨w_1180, w_1181, w_1182, w_95, by decide, by decide, by decide +kernel⟩
theorem qX6_leastReachOfAny : yCalV yX6_leastReachOfAny cX6_leastReachOfAny 3 (some .int) 0 := ⟨w_1175, w_1176, w_1177, w_95, by decide, by decide, by decide +kernel⟩
theorem qX7_init : yCalI yX7_init cX7_init 1 0 := ⟨w_160, w_161, w_88, rfl, by decide, by decide, by decide +kernel⟩
theorem qX7_allows : yCalV yX7_allows cX7_allows 3 (some .boolean) 2 := ⟨w_729, w_730, w_731, w_88, by decide, by decide, by decide +kernel⟩
theorem qX7_value : yCalV yX7_value cX7_value 2 (some .int) 1 := ⟨w_737, w_738, w_739, w_88, by decide, by decide, by decide +kernel⟩
theorem qX7_change : yCalV yX7_change cX7_change 3 none 2 := ⟨w_741, w_742, w_743, w_88, by decide, by decide, by decide +kernel⟩
theorem qX7_copyFrom : yCalV yX7_copyFrom cX7_copyFrom 2 none 1 := ⟨w_1146, w_1147, w_1148, w_88, by decide, by decide, by decide +kernel⟩
theorem qX8_init : yCalI yX8_init cX8_init 1 0 := ⟨w_280, w_281, w_93, rfl, by decide, by decide, by decide +kernel⟩
theorem qX9_init : yCalI yX9_init cX9_init 1 0 := ⟨w_117, w_118, w_87, rfl, by decide, by decide, by decide +kernel⟩
theorem qX9_hasRoom : yCalV yX9_hasRoom cX9_hasRoom 1 (some .boolean) 0 := ⟨w_541, w_542, w_543, w_87, by decide, by decide, by decide +kernel⟩
theorem qX9_append : yCalV yX9_append cX9_append 3 none 1 := ⟨w_545, w_546, w_547, w_87, by decide, by decide, by decide +kernel⟩
theorem qX9_parse : yCalV yX9_parse cX9_parse 3 (some .int) 1 := ⟨w_683, w_684, w_685, w_87, by decide, by decide, by decide +kernel⟩
theorem qX9_readRow : yCalV yX9_readRow cX9_readRow 6 none 1 := ⟨w_688, w_3, w_689, w_87, by decide, by decide, by decide +kernel⟩
theorem qX9_readItem : yCalV yX9_readItem cX9_readItem 6 (some .int) 1 := ⟨w_692, w_4, w_693, w_87, by decide, by decide, by decide +kernel⟩
theorem qX9_readTimes : yCalV yX9_readTimes cX9_readTimes 3 (some .int) 0 := ⟨w_696, w_5, w_697, w_87, by decide, by decide, by decide +kernel⟩
theorem qX9_failAt : yCalV yX9_failAt cX9_failAt 3 none 2 := ⟨w_703, w_6, w_704, w_87, by decide, by decide, by decide +kernel⟩
theorem qX10_init : yCalI yX10_init cX10_init 1 0 := ⟨w_109, w_110, w_86, rfl, by decide, by decide, by decide +kernel⟩
theorem qX10_feed : yCalV yX10_feed cX10_feed 6 (some .int) 5 := ⟨w_537, w_538, w_539, w_86, by decide, by decide, by decide +kernel⟩
theorem qX10_text : yCalV yX10_text cX10_text 3 (some .int) 1 := ⟨w_608, w_609, w_610, w_86, by decide, by decide, by decide +kernel⟩
theorem qX10_fault : yCalV yX10_fault cX10_fault 1 (some .int) 0 := ⟨w_549, w_550, w_551, w_86, by decide, by decide, by decide +kernel⟩
theorem qX10_set : yCalV yX10_set cX10_set 4 (some .int) 2 := ⟨w_725, w_726, w_727, w_86, by decide, by decide, by decide +kernel⟩
theorem qX10_hole : yCalV yX10_hole cX10_hole 8 (some .int) 4 := ⟨w_749, w_750, w_751, w_86, by decide, by decide, by decide +kernel⟩
theorem qX10_paint : yCalV yX10_paint cX10_paint 6 (some .int) 3 := ⟨w_803, w_804, w_805, w_86, by decide, by decide, by decide +kernel⟩
theorem qX10_keep : yCalV yX10_keep cX10_keep 1 (some .int) 0 := ⟨w_553, w_554, w_555, w_86, by decide, by decide, by decide +kernel⟩
theorem qX10_fill : yCalV yX10_fill cX10_fill 2 (some .int) 1 := ⟨w_810, w_811, w_812, w_86, by decide, by decide, by decide +kernel⟩
theorem qX10_guide : yCalV yX10_guide cX10_guide 2 (some .int) 1 := ⟨w_976, w_977, w_978, w_86, by decide, by decide, by decide +kernel⟩
theorem qX10_undo : yCalV yX10_undo cX10_undo 1 (some .int) 0 := ⟨w_573, w_574, w_575, w_86, by decide, by decide, by decide +kernel⟩
theorem qX10_told : yCalV yX10_told cX10_told 2 (some .int) 1 := ⟨w_983, w_984, w_985, w_86, by decide, by decide, by decide +kernel⟩
theorem qX10_dot : yCalV yX10_dot cX10_dot 5 (some .int) 3 := ⟨w_1023, w_1024, w_1025, w_86, by decide, by decide, by decide +kernel⟩
theorem qX10_rank : yCalV yX10_rank cX10_rank 4 (some .int) 3 := ⟨w_1030, w_1031, w_1032, w_86, by decide, by decide, by decide +kernel⟩
theorem qX10_next : yCalV yX10_next cX10_next 4 (some .int) 1 := ⟨w_1039, w_1040, w_1041, w_86, by decide, by decide, by decide +kernel⟩
theorem qX10_search : yCalV yX10_search cX10_search 4 (some .int) 3 := ⟨w_1054, w_1055, w_1056, w_86, by decide, by decide, by decide +kernel⟩
theorem qX10_difference : yCalV yX10_difference cX10_difference 8 (some .int) 5 := ⟨w_1061, w_1062, w_1063, w_86, by decide, by decide, by decide +kernel⟩
theorem qX10_front : yCalV yX10_front cX10_front 4 (some .int) 2 := ⟨w_1077, w_1078, w_1079, w_86, by decide, by decide, by decide +kernel⟩
theorem qX10_part : yCalV yX10_part cX10_part 12 (some .int) 2 := ⟨w_1088, w_1089, w_1090, w_86, by decide, by decide, by decide +kernel⟩
theorem qX10_ring : yCalV yX10_ring cX10_ring 9 (some .int) 2 := ⟨w_1101, w_1102, w_1103, w_86, by decide, by decide, by decide +kernel⟩
theorem qX10_log : yCalV yX10_log cX10_log 3 (some .int) 2 := ⟨w_1113, w_1114, w_1115, w_86, by decide, by decide, by decide +kernel⟩
theorem qX10_half : yCalV yX10_half cX10_half 5 (some .int) 3 := ⟨w_1130, w_1131, w_1132, w_86, by decide, by decide, by decide +kernel⟩
theorem qX10_ahead : yCalV yX10_ahead cX10_ahead 3 (some .int) 2 := ⟨w_1138, w_1139, w_1140, w_86, by decide, by decide, by decide +kernel⟩
theorem qX10_flaw : yCalV yX10_flaw cX10_flaw 1 (some .int) 0 := ⟨w_587, w_588, w_589, w_86, by decide, by decide, by decide +kernel⟩
theorem qX10_flawBy : yCalV yX10_flawBy cX10_flawBy 2 (some .int) 1 := ⟨w_1156, w_1157, w_1158, w_86, by decide, by decide, by decide +kernel⟩
theorem qX10_tune : yCalV yX10_tune cX10_tune 8 (some .int) 1 := ⟨w_1164, w_1165, w_1166, w_86, by decide, by decide, by decide +kernel⟩
theorem qX10_reach : yCalV yX10_reach cX10_reach 4 (some .int) 3 := ⟨w_1171, w_1172, w_1173, w_86, by decide, by decide, by decide +kernel⟩
theorem qX10_seams : yCalV yX10_seams cX10_seams 10 (some .int) 1 := ⟨w_1188, w_1189, w_1190, w_86, by decide, by decide, by decide +kernel⟩
theorem qX10_favourite : yCalV yX10_favourite cX10_favourite 6 (some .int) 1 := ⟨w_1202, w_1203, w_1204, w_86, by decide, by decide, by decide +kernel⟩
theorem qX10_turning : yCalV yX10_turning cX10_turning 6 (some .int) 1 := ⟨w_1214, w_1215, w_1216, w_86, by decide, by decide, by decide +kernel⟩
theorem qX10_lent : yCalV yX10_lent cX10_lent 7 (some .int) 2 := ⟨w_1221, w_1222, w_1223, w_86, by decide, by decide, by decide +kernel⟩
theorem qX10_print : yCalV yX10_print cX10_print 4 (some .long) 0 := ⟨w_595, w_596, w_597, w_86, by decide, by decide, by decide +kernel⟩
theorem qX10_status : yCalV yX10_status cX10_status 2 (some .int) 1 := ⟨w_600, w_601, w_602, w_86, by decide, by decide, by decide +kernel⟩
theorem qX10_refuseNoSuch : yCalV yX10_refuseNoSuch cX10_refuseNoSuch 1 none 0 := ⟨w_762, w_8, w_763, w_86, by decide, by decide, by decide +kernel⟩
theorem qX10_demand : yCalV yX10_demand cX10_demand 2 none 1 := ⟨w_613, w_1, w_614, w_86, by decide, by decide, by decide +kernel⟩
theorem qX10_demandDot : yCalV yX10_demandDot cX10_demandDot 3 none 2 := ⟨w_754, w_7, w_755, w_86, by decide, by decide, by decide +kernel⟩
theorem qX10_demandPart : yCalV yX10_demandPart cX10_demandPart 3 none 1 := ⟨w_1093, w_23, w_1094, w_86, by decide, by decide, by decide +kernel⟩
theorem qX10_startTrial : yCalV yX10_startTrial cX10_startTrial 1 none 0 := ⟨w_1143, w_24, w_1144, w_86, by decide, by decide, by decide +kernel⟩
theorem qX10_frontAnswer : yCalV yX10_frontAnswer cX10_frontAnswer 4 (some .int) 2 := ⟨w_1046, w_22, w_1047, w_86, by decide, by decide, by decide +kernel⟩
theorem qX10_countFront : yCalV yX10_countFront cX10_countFront 3 (some .int) 0 := ⟨w_992, w_19, w_993, w_86, by decide, by decide, by decide +kernel⟩
theorem qX10_isSeam : yCalV yX10_isSeam cX10_isSeam 4 (some .boolean) 3 := ⟨w_1195, w_25, w_1196, w_86, by decide, by decide, by decide +kernel⟩
theorem qX10_flawOf : yCalV yX10_flawOf cX10_flawOf 5 (some .int) 1 := ⟨w_592, w_0, w_593, w_86, by decide, by decide, by decide +kernel⟩
theorem qX10_leastSureFilledIn : yCalS yX10_leastSureFilledIn cX10_leastSureFilledIn 3 (some .int) 1 := ⟨w_1150, w_1151, w_86, by decide, by decide, by decide +kernel⟩
theorem qX11_thrown : yCalV yX11_thrown cX11_thrown 1 (some .int) 0 := ⟨w_1225, w_1226, w_1227, w_98, by decide, by decide, by decide +kernel⟩
theorem qX11_isFine : yCalV yX11_isFine cX11_isFine 4 (some .boolean) 3 := ⟨w_1397, w_29, w_1398, w_98, by decide, by decide, by decide +kernel⟩
theorem qX11_within : yCalS yX11_within cX11_within 3 (some .boolean) 3 := ⟨w_1393, w_1394, w_98, by decide, by decide, by decide +kernel⟩
theorem qX11_init : yCalI yX11_init cX11_init 3 0 := ⟨w_1231, w_1232, w_98, rfl, by decide, by decide, by decide +kernel⟩
theorem qX11_at : yCalS yX11_at cX11_at 2 (some .int) 2 := ⟨w_1237, w_1238, w_98, by decide, by decide, by decide +kernel⟩
theorem qX11_known : yCalV yX11_known cX11_known 4 none 3 := ⟨w_1241, w_26, w_1242, w_98, by decide, by decide, by decide +kernel⟩
theorem qX11_missing : yCalV yX11_missing cX11_missing 3 none 2 := ⟨w_1430, w_37, w_1431, w_98, by decide, by decide, by decide +kernel⟩
theorem qX11_forgets : yCalV yX11_forgets cX11_forgets 3 none 2 := ⟨w_1245, w_27, w_1246, w_98, by decide, by decide, by decide +kernel⟩
theorem qX11_has : yCalV yX11_has cX11_has 4 (some .boolean) 3 := ⟨w_1446, w_41, w_1447, w_98, by decide, by decide, by decide +kernel⟩
theorem qX11_isKnown : yCalV yX11_isKnown cX11_isKnown 4 (some .boolean) 3 := ⟨w_1442, w_40, w_1443, w_98, by decide, by decide, by decide +kernel⟩
theorem qX11_isMissing : yCalV yX11_isMissing cX11_isMissing 4 (some .boolean) 3 := ⟨w_1506, w_50, w_1507, w_98, by decide, by decide, by decide +kernel⟩
theorem qX11_toneOf : yCalV yX11_toneOf cX11_toneOf 4 (some .int) 3 := ⟨w_1474, w_44, w_1475, w_98, by decide, by decide, by decide +kernel⟩
theorem qX11_isFilled : yCalV yX11_isFilled cX11_isFilled 4 (some .boolean) 3 := ⟨w_1547, w_60, w_1548, w_98, by decide, by decide, by decide +kernel⟩
theorem qX11_isFront : yCalV yX11_isFront cX11_isFront 4 (some .boolean) 3 := ⟨w_1502, w_49, w_1503, w_98, by decide, by decide, by decide +kernel⟩
theorem qX11_steady : yCalV yX11_steady cX11_steady 8 (some .int) 3 := ⟨w_1514, w_52, w_1515, w_98, by decide, by decide, by decide +kernel⟩
theorem qX11_slopes : yCalV yX11_slopes cX11_slopes 8 none 3 := ⟨w_1522, w_54, w_1523, w_98, by decide, by decide, by decide +kernel⟩
theorem qX11_outX : yCalV yX11_outX cX11_outX 4 (some .int) 3 := ⟨w_1531, w_56, w_1532, w_98, by decide, by decide, by decide +kernel⟩
theorem qX11_outY : yCalV yX11_outY cX11_outY 4 (some .int) 3 := ⟨w_1527, w_55, w_1528, w_98, by decide, by decide, by decide +kernel⟩
theorem qX11_flow : yCalV yX11_flow cX11_flow 4 (some .int) 3 := ⟨w_1518, w_53, w_1519, w_98, by decide, by decide, by decide +kernel⟩
theorem qX11_rankOf : yCalV yX11_rankOf cX11_rankOf 4 (some .int) 3 := ⟨w_1510, w_51, w_1511, w_98, by decide, by decide, by decide +kernel⟩
theorem qX11_findsNext : yCalV yX11_findsNext cX11_findsNext 5 (some .boolean) 1 := ⟨w_1498, w_48, w_1499, w_98, by decide, by decide, by decide +kernel⟩
theorem qX11_isWholeSource : yCalV yX11_isWholeSource cX11_isWholeSource 6 (some .boolean) 3 := ⟨w_1543, w_59, w_1544, w_98, by decide, by decide, by decide +kernel⟩
theorem qX11_isNear : yCalV yX11_isNear cX11_isNear 6 (some .boolean) 5 := ⟨w_1582, w_67, w_1583, w_98, by decide, by decide, by decide +kernel⟩
theorem qX11_wayX : yCalS yX11_wayX cX11_wayX 4 (some .int) 3 := ⟨w_1562, w_1563, w_98, by decide, by decide, by decide +kernel⟩
theorem qX11_wayY : yCalS yX11_wayY cX11_wayY 4 (some .int) 3 := ⟨w_1565, w_1566, w_98, by decide, by decide, by decide +kernel⟩
theorem qX11_weight : yCalV yX11_weight cX11_weight 4 (some .int) 3 := ⟨w_1569, w_64, w_1570, w_98, by decide, by decide, by decide +kernel⟩
theorem qX11_apart : yCalV yX11_apart cX11_apart 9 (some .int) 8 := ⟨w_1559, w_63, w_1560, w_98, by decide, by decide, by decide +kernel⟩
theorem qX11_bounds : yCalV yX11_bounds cX11_bounds 13 none 6 := ⟨w_1555, w_62, w_1556, w_98, by decide, by decide, by decide +kernel⟩
theorem qX11_differs : yCalV yX11_differs cX11_differs 12 (some .int) 7 := ⟨w_1574, w_65, w_1575, w_98, by decide, by decide, by decide +kernel⟩
theorem qX11_begins : yCalV yX11_begins cX11_begins 1 none 0 := ⟨w_1539, w_58, w_1540, w_98, by decide, by decide, by decide +kernel⟩
theorem qX11_asks : yCalV yX11_asks cX11_asks 9 none 5 := ⟨w_1551, w_61, w_1552, w_98, by decide, by decide, by decide +kernel⟩
theorem qX11_searches : yCalV yX11_searches cX11_searches 7 none 4 := ⟨w_1578, w_66, w_1579, w_98, by decide, by decide, by decide +kernel⟩
theorem qX11_guided : yCalV yX11_guided cX11_guided 9 none 3 := ⟨w_1535, w_57, w_1536, w_98, by decide, by decide, by decide +kernel⟩
theorem qX11_fills : yCalV yX11_fills cX11_fills 9 (some .boolean) 2 := ⟨w_1494, w_47, w_1495, w_98, by decide, by decide, by decide +kernel⟩
theorem qX11_fillsOne : yCalV yX11_fillsOne cX11_fillsOne 7 none 5 := ⟨w_1586, w_68, w_1587, w_98, by decide, by decide, by decide +kernel⟩
theorem qX11_logs : yCalV yX11_logs cX11_logs 8 none 5 := ⟨w_1591, w_69, w_1592, w_98, by decide, by decide, by decide +kernel⟩
theorem qX11_fillsAll : yCalV yX11_fillsAll cX11_fillsAll 5 (some .int) 3 := ⟨w_1490, w_46, w_1491, w_98, by decide, by decide, by decide +kernel⟩
theorem qX11_halves : yCalV yX11_halves cX11_halves 4 (some .boolean) 1 := ⟨w_1607, w_72, w_1608, w_98, by decide, by decide, by decide +kernel⟩
theorem qX11_halvesOne : yCalV yX11_halvesOne cX11_halvesOne 8 none 3 := ⟨w_1611, w_73, w_1612, w_98, by decide, by decide, by decide +kernel⟩
theorem qX11_guides : yCalV yX11_guides cX11_guides 4 (some .int) 1 := ⟨w_1603, w_71, w_1604, w_98, by decide, by decide, by decide +kernel⟩
theorem qX11_feed : yCalV yX11_feed cX11_feed 6 (some .int) 5 := ⟨w_1381, w_1382, w_1383, w_98, by decide, by decide, by decide +kernel⟩
theorem qX11_puts : yCalV yX11_puts cX11_puts 3 none 1 := ⟨w_1386, w_28, w_1387, w_98, by decide, by decide, by decide +kernel⟩
theorem qX11_wrong : yCalV yX11_wrong cX11_wrong 3 none 2 := ⟨w_1418, w_34, w_1419, w_98, by decide, by decide, by decide +kernel⟩
theorem qX11_sign : yCalV yX11_sign cX11_sign 1 (some .int) 0 := ⟨w_1413, w_33, w_1414, w_98, by decide, by decide, by decide +kernel⟩
theorem qX11_isDigit : yCalV yX11_isDigit cX11_isDigit 1 (some .boolean) 0 := ⟨w_1409, w_32, w_1410, w_98, by decide, by decide, by decide +kernel⟩
theorem qX11_isDot : yCalV yX11_isDot cX11_isDot 1 (some .boolean) 0 := ⟨w_1422, w_35, w_1423, w_98, by decide, by decide, by decide +kernel⟩
theorem qX11_item : yCalV yX11_item cX11_item 6 none 0 := ⟨w_1405, w_31, w_1406, w_98, by decide, by decide, by decide +kernel⟩
theorem qX11_oneRow : yCalV yX11_oneRow cX11_oneRow 1 none 0 := ⟨w_1401, w_30, w_1402, w_98, by decide, by decide, by decide +kernel⟩
theorem qX11_text : yCalV yX11_text cX11_text 2 (some .int) 1 := ⟨w_1389, w_1390, w_1391, w_98, by decide, by decide, by decide +kernel⟩
theorem qX11_takes : yCalV yX11_takes cX11_takes 3 none 0 := ⟨w_1426, w_36, w_1427, w_98, by decide, by decide, by decide +kernel⟩
theorem qX11_fault : yCalV yX11_fault cX11_fault 1 (some .int) 0 := ⟨w_1449, w_1450, w_1451, w_98, by decide, by decide, by decide +kernel⟩
theorem qX11_set : yCalV yX11_set cX11_set 5 (some .int) 2 := ⟨w_1453, w_1454, w_1455, w_98, by decide, by decide, by decide +kernel⟩
theorem qX11_keeps : yCalV yX11_keeps cX11_keeps 2 none 0 := ⟨w_1462, w_42, w_1463, w_98, by decide, by decide, by decide +kernel⟩
theorem qX11_keepsAside : yCalV yX11_keepsAside cX11_keepsAside 3 (some .int) 1 := ⟨w_1595, w_70, w_1596, w_98, by decide, by decide, by decide +kernel⟩
theorem qX11_isThere : yCalV yX11_isThere cX11_isThere 3 (some .boolean) 2 := ⟨w_1470, w_43, w_1471, w_98, by decide, by decide, by decide +kernel⟩
theorem qX11_hole : yCalV yX11_hole cX11_hole 8 (some .int) 4 := ⟨w_1457, w_1458, w_1459, w_98, by decide, by decide, by decide +kernel⟩
theorem qX11_paint : yCalV yX11_paint cX11_paint 5 (some .int) 3 := ⟨w_1465, w_1466, w_1467, w_98, by decide, by decide, by decide +kernel⟩
theorem qX11_knownMany : yCalV yX11_knownMany cX11_knownMany 4 (some .int) 0 := ⟨w_1438, w_39, w_1439, w_98, by decide, by decide, by decide +kernel⟩
theorem qX11_missingMany : yCalV yX11_missingMany cX11_missingMany 1 (some .int) 0 := ⟨w_1434, w_38, w_1435, w_98, by decide, by decide, by decide +kernel⟩
theorem qX11_keep : yCalV yX11_keep cX11_keep 2 (some .int) 0 := ⟨w_1477, w_1478, w_1479, w_98, by decide, by decide, by decide +kernel⟩
theorem qX11_fill : yCalV yX11_fill cX11_fill 2 (some .int) 1 := ⟨w_1481, w_1482, w_1483, w_98, by decide, by decide, by decide +kernel⟩
theorem qX11_guide : yCalV yX11_guide cX11_guide 2 (some .int) 1 := ⟨w_1598, w_1599, w_1600, w_98, by decide, by decide, by decide +kernel⟩
theorem qX11_undo : yCalV yX11_undo cX11_undo 2 (some .int) 0 := ⟨w_1614, w_1615, w_1616, w_98, by decide, by decide, by decide +kernel⟩
theorem qX11_spreads : yCalV yX11_spreads cX11_spreads 10 none 2 := ⟨w_1631, w_76, w_1632, w_98, by decide, by decide, by decide +kernel⟩
theorem qX11_parts : yCalV yX11_parts cX11_parts 3 none 0 := ⟨w_1627, w_75, w_1628, w_98, by decide, by decide, by decide +kernel⟩
theorem qX11_isPart : yCalV yX11_isPart cX11_isPart 2 (some .boolean) 1 := ⟨w_1623, w_74, w_1624, w_98, by decide, by decide, by decide +kernel⟩
theorem qX11_isOf : yCalV yX11_isOf cX11_isOf 4 (some .boolean) 3 := ⟨w_1635, w_77, w_1636, w_98, by decide, by decide, by decide +kernel⟩
theorem qX11_part : yCalV yX11_part cX11_part 11 (some .int) 2 := ⟨w_1618, w_1619, w_1620, w_98, by decide, by decide, by decide +kernel⟩
theorem qX11_ring : yCalV yX11_ring cX11_ring 9 (some .int) 2 := ⟨w_1638, w_1639, w_1640, w_98, by decide, by decide, by decide +kernel⟩
theorem qX11_filledMany : yCalV yX11_filledMany cX11_filledMany 4 (some .int) 0 := ⟨w_1647, w_78, w_1648, w_98, by decide, by decide, by decide +kernel⟩
theorem qX11_frontMany : yCalV yX11_frontMany cX11_frontMany 4 (some .int) 0 := ⟨w_1651, w_79, w_1652, w_98, by decide, by decide, by decide +kernel⟩
theorem qX11_told : yCalV yX11_told cX11_told 2 (some .int) 1 := ⟨w_1642, w_1643, w_1644, w_98, by decide, by decide, by decide +kernel⟩
theorem qX11_xOf : yCalS yX11_xOf cX11_xOf 1 (some .int) 1 := ⟨w_1658, w_1659, w_98, by decide, by decide, by decide +kernel⟩
theorem qX11_yOf : yCalS yX11_yOf cX11_yOf 1 (some .int) 1 := ⟨w_1661, w_1662, w_98, by decide, by decide, by decide +kernel⟩
theorem qX11_dot : yCalV yX11_dot cX11_dot 5 (some .int) 3 := ⟨w_1654, w_1655, w_1656, w_98, by decide, by decide, by decide +kernel⟩
theorem qX11_rank : yCalV yX11_rank cX11_rank 4 (some .int) 3 := ⟨w_1664, w_1665, w_1666, w_98, by decide, by decide, by decide +kernel⟩
theorem qX11_next : yCalV yX11_next cX11_next 3 (some .int) 1 := ⟨w_1668, w_1669, w_1670, w_98, by decide, by decide, by decide +kernel⟩
theorem qX11_search : yCalV yX11_search cX11_search 4 (some .int) 3 := ⟨w_1672, w_1673, w_1674, w_98, by decide, by decide, by decide +kernel⟩
theorem qX11_difference : yCalV yX11_difference cX11_difference 6 (some .int) 5 := ⟨w_1676, w_1677, w_1678, w_98, by decide, by decide, by decide +kernel⟩
theorem qX11_isAhead : yCalV yX11_isAhead cX11_isAhead 5 (some .boolean) 4 := ⟨w_1685, w_80, w_1686, w_98, by decide, by decide, by decide +kernel⟩
theorem qX11_front : yCalV yX11_front cX11_front 11 (some .int) 2 := ⟨w_1680, w_1681, w_1682, w_98, by decide, by decide, by decide +kernel⟩
theorem qX11_log : yCalV yX11_log cX11_log 3 (some .int) 2 := ⟨w_1688, w_1689, w_1690, w_98, by decide, by decide, by decide +kernel⟩
theorem qX11_half : yCalV yX11_half cX11_half 5 (some .int) 3 := ⟨w_1692, w_1693, w_1694, w_98, by decide, by decide, by decide +kernel⟩
theorem qX11_laysAside : yCalV yX11_laysAside cX11_laysAside 2 none 0 := ⟨w_1486, w_45, w_1487, w_98, by decide, by decide, by decide +kernel⟩
theorem qX11_laysBack : yCalV yX11_laysBack cX11_laysBack 2 none 0 := ⟨w_1709, w_83, w_1710, w_98, by decide, by decide, by decide +kernel⟩
theorem qX11_flawNow : yCalV yX11_flawNow cX11_flawNow 5 (some .int) 0 := ⟨w_1701, w_81, w_1702, w_98, by decide, by decide, by decide +kernel⟩
theorem qX11_leastSure : yCalV yX11_leastSure cX11_leastSure 5 (some .int) 0 := ⟨w_1705, w_82, w_1706, w_98, by decide, by decide, by decide +kernel⟩
theorem qX11_ahead : yCalV yX11_ahead cX11_ahead 5 (some .int) 2 := ⟨w_1696, w_1697, w_1698, w_98, by decide, by decide, by decide +kernel⟩
theorem qX11_flaw : yCalV yX11_flaw cX11_flaw 1 (some .int) 0 := ⟨w_1712, w_1713, w_1714, w_98, by decide, by decide, by decide +kernel⟩
theorem qX11_flawBy : yCalV yX11_flawBy cX11_flawBy 4 (some .int) 1 := ⟨w_1716, w_1717, w_1718, w_98, by decide, by decide, by decide +kernel⟩
theorem qX11_tune : yCalV yX11_tune cX11_tune 9 (some .int) 1 := ⟨w_1721, w_1722, w_1723, w_98, by decide, by decide, by decide +kernel⟩
theorem qX11_turning : yCalV yX11_turning cX11_turning 7 (some .int) 1 := ⟨w_1725, w_1726, w_1727, w_98, by decide, by decide, by decide +kernel⟩
theorem qX11_reach : yCalV yX11_reach cX11_reach 8 (some .int) 3 := ⟨w_1729, w_1730, w_1731, w_98, by decide, by decide, by decide +kernel⟩
theorem qX11_joint : yCalV yX11_joint cX11_joint 6 none 4 := ⟨w_1738, w_84, w_1739, w_98, by decide, by decide, by decide +kernel⟩
theorem qX11_seams : yCalV yX11_seams cX11_seams 4 (some .int) 1 := ⟨w_1733, w_1734, w_1735, w_98, by decide, by decide, by decide +kernel⟩
theorem qX11_favourite : yCalV yX11_favourite cX11_favourite 7 (some .int) 1 := ⟨w_1741, w_1742, w_1743, w_98, by decide, by decide, by decide +kernel⟩
theorem qX11_lent : yCalV yX11_lent cX11_lent 7 (some .int) 2 := ⟨w_1745, w_1746, w_1747, w_98, by decide, by decide, by decide +kernel⟩
theorem qX11_print : yCalV yX11_print cX11_print 5 (some .long) 0 := ⟨w_1749, w_1750, w_1751, w_98, by decide, by decide, by decide +kernel⟩
theorem qX11_status : yCalV yX11_status cX11_status 2 (some .int) 1 := ⟨w_1754, w_1755, w_1756, w_98, by decide, by decide, by decide +kernel⟩
