theorem mt_1 {w : Cond} (h : w ∈ tables_1_1) : w ∈ lw_tbl := List.mem_append_right _ (List.mem_append_left _ h)
theorem mt_2 {w : Cond} (h : w ∈ tables_1_2) : w ∈ lw_tbl := List.mem_append_right _ (List.mem_append_right _ (List.mem_append_left _ h))
theorem mt_3 {w : Cond} (h : w ∈ tables_1_3) : w ∈ lw_tbl := List.mem_append_right _ (List.mem_append_right _ (List.mem_append_right _ (List.mem_append_left _ h)))
theorem mt_4 {w : Cond} (h : w ∈ tables_1_4) : w ∈ lw_tbl := List.mem_append_right _ (List.mem_append_right _ (List.mem_append_right _ (List.mem_append_right _ (List.mem_append_left _ h))))
theorem mt_5 {w : Cond} (h : w ∈ tables_1_5) : w ∈ lw_tbl := List.mem_append_right _ (List.mem_append_right _ (List.mem_append_right _ (List.mem_append_right _ (List.mem_append_right _ (List.mem_append_left _ h)))))
theorem mt_6 {w : Cond} (h : w ∈ tables_1_6) : w ∈ lw_tbl := List.mem_append_right _ (List.mem_append_right _ (List.mem_append_right _ (List.mem_append_right _ (List.mem_append_right _ (List.mem_append_right _ (h))))))
set_option maxRecDepth 100000 in
theorem mw_0 : Cond.selects RX6 yX6_refuse yX6_refuse ∈ gw_all := List.mem_filter.mpr ⟨List.mem_append_left _ (List.mem_of_getElem? (i := 0) rfl), rfl⟩
set_option maxRecDepth 100000 in
theorem mw_1 : Cond.selects RX6 yX6_keepForUndo yX6_keepForUndo ∈ gw_all := List.mem_filter.mpr ⟨List.mem_append_left _ (List.mem_of_getElem? (i := 1) rfl), rfl⟩
set_option maxRecDepth 100000 in
theorem mw_2 : Cond.selects RX6 yX6_accept yX6_accept ∈ gw_all := List.mem_filter.mpr ⟨List.mem_append_left _ (List.mem_of_getElem? (i := 2) rfl), rfl⟩
set_option maxRecDepth 100000 in
theorem mw_3 : Cond.selects RX6 yX6_tellMap yX6_tellMap ∈ gw_all := List.mem_filter.mpr ⟨List.mem_append_left _ (List.mem_of_getElem? (i := 3) rfl), rfl⟩
set_option maxRecDepth 100000 in
theorem mw_4 : Cond.selects RX6 yX6_hasTimeFor yX6_hasTimeFor ∈ gw_all := List.mem_filter.mpr ⟨List.mem_append_left _ (List.mem_of_getElem? (i := 4) rfl), rfl⟩
set_option maxRecDepth 100000 in
theorem mw_5 : Cond.selects RX6 yX6_planOf yX6_planOf ∈ gw_all := List.mem_filter.mpr ⟨List.mem_append_left _ (List.mem_of_getElem? (i := 5) rfl), rfl⟩
set_option maxRecDepth 100000 in
theorem mw_6 : Cond.selects RX6 yX6_noteHops yX6_noteHops ∈ gw_all := List.mem_filter.mpr ⟨List.mem_append_left _ (List.mem_of_getElem? (i := 6) rfl), rfl⟩
set_option maxRecDepth 100000 in
theorem mw_7 : Cond.selects RX6 yX6_clashesAt yX6_clashesAt ∈ gw_all := List.mem_filter.mpr ⟨List.mem_append_left _ (List.mem_of_getElem? (i := 7) rfl), rfl⟩
set_option maxRecDepth 100000 in
theorem mw_8 : Cond.selects RX6 yX6_paperWith yX6_paperWith ∈ gw_all := List.mem_filter.mpr ⟨List.mem_append_left _ (List.mem_of_getElem? (i := 8) rfl), rfl⟩
set_option maxRecDepth 100000 in
theorem mw_9 : Cond.selects RX7 yX7_refuse yX7_refuse ∈ gw_all := List.mem_filter.mpr ⟨List.mem_append_left _ (List.mem_of_getElem? (i := 9) rfl), rfl⟩
set_option maxRecDepth 100000 in
theorem mw_10 : Cond.selects RX7 yX7_tell yX7_tell ∈ gw_all := List.mem_filter.mpr ⟨List.mem_append_left _ (List.mem_of_getElem? (i := 10) rfl), rfl⟩
set_option maxRecDepth 100000 in
theorem mw_11 : Cond.selects RX7 yX7_isNet yX7_isNet ∈ gw_all := List.mem_filter.mpr ⟨List.mem_append_left _ (List.mem_of_getElem? (i := 11) rfl), rfl⟩
set_option maxRecDepth 100000 in
theorem mw_12 : Cond.selects RX7 yX7_isLink yX7_isLink ∈ gw_all := List.mem_filter.mpr ⟨List.mem_append_left _ (List.mem_of_getElem? (i := 12) rfl), rfl⟩
set_option maxRecDepth 100000 in
theorem mw_13 : Cond.selects RX7 yX7_mapHeld yX7_mapHeld ∈ gw_all := List.mem_filter.mpr ⟨List.mem_append_left _ (List.mem_of_getElem? (i := 13) rfl), rfl⟩
set_option maxRecDepth 100000 in
theorem mw_14 : Cond.selects RX7 yX7_hopOf yX7_hopOf ∈ gw_all := List.mem_filter.mpr ⟨List.mem_append_left _ (List.mem_of_getElem? (i := 14) rfl), rfl⟩
set_option maxRecDepth 100000 in
theorem mw_15 : Cond.selects RX7 yX7_remember yX7_remember ∈ gw_all := List.mem_filter.mpr ⟨List.mem_append_left _ (List.mem_of_getElem? (i := 15) rfl), rfl⟩
set_option maxRecDepth 100000 in
theorem mw_16 : Cond.selects RX7 yX7_isRadio yX7_isRadio ∈ gw_all := List.mem_filter.mpr ⟨List.mem_append_left _ (List.mem_of_getElem? (i := 16) rfl), rfl⟩
set_option maxRecDepth 100000 in
theorem mw_17 : Cond.selects RX7 yX7_isIn yX7_isIn ∈ gw_all := List.mem_filter.mpr ⟨List.mem_append_left _ (List.mem_of_getElem? (i := 17) rfl), rfl⟩
set_option maxRecDepth 100000 in
theorem mw_18 : Cond.selects RX7 yX7_comes yX7_comes ∈ gw_all := List.mem_filter.mpr ⟨List.mem_append_left _ (List.mem_of_getElem? (i := 18) rfl), rfl⟩
set_option maxRecDepth 100000 in
theorem mw_19 : Cond.selects RX7 yX7_tellMap yX7_tellMap ∈ gw_all := List.mem_filter.mpr ⟨List.mem_append_left _ (List.mem_of_getElem? (i := 19) rfl), rfl⟩
set_option maxRecDepth 100000 in
theorem mw_20 : Cond.selects RX7 yX7_badOf yX7_badOf ∈ gw_all := List.mem_filter.mpr ⟨List.mem_append_left _ (List.mem_of_getElem? (i := 20) rfl), rfl⟩
set_option maxRecDepth 100000 in
theorem mw_21 : Cond.selects RX7 yX7_aheadOf yX7_aheadOf ∈ gw_all := List.mem_filter.mpr ⟨List.mem_append_left _ (List.mem_of_getElem? (i := 21) rfl), rfl⟩
set_option maxRecDepth 100000 in
theorem mw_22 : Cond.selects RX7 yX7_turnsBy yX7_turnsBy ∈ gw_all := List.mem_filter.mpr ⟨List.mem_append_left _ (List.mem_of_getElem? (i := 22) rfl), rfl⟩
set_option maxRecDepth 100000 in
theorem mw_23 : Cond.selects RX7 yX7_turn yX7_turn ∈ gw_all := List.mem_filter.mpr ⟨List.mem_append_left _ (List.mem_of_getElem? (i := 23) rfl), rfl⟩
set_option maxRecDepth 100000 in
theorem mw_24 : Cond.selects RX7 yX7_mapsBecome yX7_mapsBecome ∈ gw_all := List.mem_filter.mpr ⟨List.mem_append_left _ (List.mem_of_getElem? (i := 24) rfl), rfl⟩
set_option maxRecDepth 100000 in
theorem mw_25 : Cond.selects RX7 yX7_framesCome yX7_framesCome ∈ gw_all := List.mem_filter.mpr ⟨List.mem_append_left _ (List.mem_of_getElem? (i := 25) rfl), rfl⟩
set_option maxRecDepth 100000 in
theorem mw_26 : Cond.selects RX7 yX7_isLinkHere yX7_isLinkHere ∈ gw_all := List.mem_filter.mpr ⟨List.mem_append_left _ (List.mem_of_getElem? (i := 26) rfl), rfl⟩
set_option maxRecDepth 100000 in
theorem mw_27 : Cond.selects RX7 yX7_isReady yX7_isReady ∈ gw_all := List.mem_filter.mpr ⟨List.mem_append_left _ (List.mem_of_getElem? (i := 27) rfl), rfl⟩
set_option maxRecDepth 100000 in
theorem mw_28 : Cond.selects RX7 yX7_isHere yX7_isHere ∈ gw_all := List.mem_filter.mpr ⟨List.mem_append_left _ (List.mem_of_getElem? (i := 28) rfl), rfl⟩
set_option maxRecDepth 100000 in
theorem mw_29 : Cond.selects RX7 yX7_choose yX7_choose ∈ gw_all := List.mem_filter.mpr ⟨List.mem_append_left _ (List.mem_of_getElem? (i := 29) rfl), rfl⟩
set_option maxRecDepth 100000 in
theorem mw_30 : Cond.selects RX7 yX7_sendsDown yX7_sendsDown ∈ gw_all := List.mem_filter.mpr ⟨List.mem_append_left _ (List.mem_of_getElem? (i := 30) rfl), rfl⟩
set_option maxRecDepth 100000 in
theorem mw_31 : Cond.selects RX7 yX7_mapFor yX7_mapFor ∈ gw_all := List.mem_filter.mpr ⟨List.mem_append_left _ (List.mem_of_getElem? (i := 31) rfl), rfl⟩
set_option maxRecDepth 100000 in
theorem mw_32 : Cond.selects RX7 yX7_casts yX7_casts ∈ gw_all := List.mem_filter.mpr ⟨List.mem_append_left _ (List.mem_of_getElem? (i := 32) rfl), rfl⟩
set_option maxRecDepth 100000 in
theorem mw_33 : Cond.selects RX7 yX7_whyNot yX7_whyNot ∈ gw_all := List.mem_filter.mpr ⟨List.mem_append_left _ (List.mem_of_getElem? (i := 33) rfl), rfl⟩
set_option maxRecDepth 100000 in
theorem mw_34 : Cond.selects RX7 yX7_draw yX7_draw ∈ gw_all := List.mem_filter.mpr ⟨List.mem_append_left _ (List.mem_of_getElem? (i := 34) rfl), rfl⟩
set_option maxRecDepth 100000 in
theorem mw_35 : Cond.selects RX7 yX7_memberHears yX7_memberHears ∈ gw_all := List.mem_filter.mpr ⟨List.mem_append_left _ (List.mem_of_getElem? (i := 35) rfl), rfl⟩
set_option maxRecDepth 100000 in
theorem mw_36 : Cond.selects RX7 yX7_hears yX7_hears ∈ gw_all := List.mem_filter.mpr ⟨List.mem_append_left _ (List.mem_of_getElem? (i := 36) rfl), rfl⟩
set_option maxRecDepth 100000 in
theorem mw_37 : Cond.selects RX7 yX7_passes yX7_passes ∈ gw_all := List.mem_filter.mpr ⟨List.mem_append_left _ (List.mem_of_getElem? (i := 37) rfl), rfl⟩
set_option maxRecDepth 100000 in
theorem mw_38 : Cond.selects RX7 yX7_goes yX7_goes ∈ gw_all := List.mem_filter.mpr ⟨List.mem_append_left _ (List.mem_of_getElem? (i := 38) rfl), rfl⟩
set_option maxRecDepth 100000 in
theorem mw_39 : Cond.selects RX7 yX7_sendsUp yX7_sendsUp ∈ gw_all := List.mem_filter.mpr ⟨List.mem_append_left _ (List.mem_of_getElem? (i := 39) rfl), rfl⟩
set_option maxRecDepth 100000 in
theorem mw_40 : Cond.selects RX7 yX7_masterHears yX7_masterHears ∈ gw_all := List.mem_filter.mpr ⟨List.mem_append_left _ (List.mem_of_getElem? (i := 40) rfl), rfl⟩
set_option maxRecDepth 100000 in
theorem mw_41 : Cond.selects RX7 yX7_chance yX7_chance ∈ gw_all := List.mem_filter.mpr ⟨List.mem_append_left _ (List.mem_of_getElem? (i := 41) rfl), rfl⟩
set_option maxRecDepth 100000 in
theorem mw_42 : Cond.selects RX7 yX7_areBoth yX7_areBoth ∈ gw_all := List.mem_filter.mpr ⟨List.mem_append_left _ (List.mem_of_getElem? (i := 42) rfl), rfl⟩
set_option maxRecDepth 100000 in
theorem mw_43 : Cond.selects RX7 yX7_clashesBy yX7_clashesBy ∈ gw_all := List.mem_filter.mpr ⟨List.mem_append_left _ (List.mem_of_getElem? (i := 43) rfl), rfl⟩
set_option maxRecDepth 100000 in
theorem mw_44 : Cond.selects RX7 yX7_canTurn yX7_canTurn ∈ gw_all := List.mem_filter.mpr ⟨List.mem_append_left _ (List.mem_of_getElem? (i := 44) rfl), rfl⟩
set_option maxRecDepth 100000 in
theorem mw_45 : Cond.selects RX7 yX7_comesAt yX7_comesAt ∈ gw_all := List.mem_filter.mpr ⟨List.mem_append_left _ (List.mem_of_getElem? (i := 45) rfl), rfl⟩
set_option maxRecDepth 100000 in
theorem mw_46 : Cond.selects RX7 yX7_isAhead yX7_isAhead ∈ gw_all := List.mem_filter.mpr ⟨List.mem_append_left _ (List.mem_of_getElem? (i := 46) rfl), rfl⟩
set_option maxRecDepth 100000 in
theorem mw_47 : Cond.selects RX7 yX7_isEmpty yX7_isEmpty ∈ gw_all := List.mem_filter.mpr ⟨List.mem_append_left _ (List.mem_of_getElem? (i := 47) rfl), rfl⟩
set_option maxRecDepth 100000 in
theorem mw_48 : Cond.selects RX7 yX7_tries yX7_tries ∈ gw_all := List.mem_filter.mpr ⟨List.mem_append_left _ (List.mem_of_getElem? (i := 48) rfl), rfl⟩
set_option maxRecDepth 100000 in
theorem mw_49 : Cond.selects RX7 yX7_otherMaps yX7_otherMaps ∈ gw_all := List.mem_filter.mpr ⟨List.mem_append_left _ (List.mem_of_getElem? (i := 49) rfl), rfl⟩
set_option maxRecDepth 100000 in
theorem mw_50 : Cond.selects RX7 yX7_heardOfAll yX7_heardOfAll ∈ gw_all := List.mem_filter.mpr ⟨List.mem_append_left _ (List.mem_of_getElem? (i := 50) rfl), rfl⟩
set_option maxRecDepth 100000 in
theorem mw_51 : Cond.initialized RL ∈ gw_all := List.mem_filter.mpr ⟨mt_1 (List.mem_of_getElem? (i := 0) rfl), rfl⟩
set_option maxRecDepth 100000 in
theorem mw_52 : Cond.initialized RX6 ∈ gw_all := List.mem_filter.mpr ⟨mt_1 (List.mem_of_getElem? (i := 1) rfl), rfl⟩
set_option maxRecDepth 100000 in
theorem mw_53 : Cond.initialized RX5 ∈ gw_all := List.mem_filter.mpr ⟨mt_1 (List.mem_of_getElem? (i := 2) rfl), rfl⟩
set_option maxRecDepth 100000 in
theorem mw_54 : Cond.initialized RX2 ∈ gw_all := List.mem_filter.mpr ⟨mt_1 (List.mem_of_getElem? (i := 3) rfl), rfl⟩
set_option maxRecDepth 100000 in
theorem mw_55 : Cond.initialized RX3 ∈ gw_all := List.mem_filter.mpr ⟨mt_1 (List.mem_of_getElem? (i := 4) rfl), rfl⟩
set_option maxRecDepth 100000 in
theorem mw_56 : Cond.initialized RX1 ∈ gw_all := List.mem_filter.mpr ⟨mt_1 (List.mem_of_getElem? (i := 5) rfl), rfl⟩
set_option maxRecDepth 100000 in
theorem mw_57 : Cond.initialized RX4 ∈ gw_all := List.mem_filter.mpr ⟨mt_1 (List.mem_of_getElem? (i := 6) rfl), rfl⟩
set_option maxRecDepth 100000 in
theorem mw_58 : Cond.initialized RX0 ∈ gw_all := List.mem_filter.mpr ⟨mt_1 (List.mem_of_getElem? (i := 7) rfl), rfl⟩
set_option maxRecDepth 100000 in
theorem mw_59 : Cond.initialized RX7 ∈ gw_all := List.mem_filter.mpr ⟨mt_1 (List.mem_of_getElem? (i := 8) rfl), rfl⟩
set_option maxRecDepth 100000 in
theorem mw_60 : Cond.initialized RJ10 ∈ gw_all := List.mem_filter.mpr ⟨mt_1 (List.mem_of_getElem? (i := 9) rfl), rfl⟩
set_option maxRecDepth 100000 in
theorem mw_61 : Cond.initialized RJ9 ∈ gw_all := List.mem_filter.mpr ⟨mt_1 (List.mem_of_getElem? (i := 10) rfl), rfl⟩
set_option maxRecDepth 100000 in
theorem mw_62 : Cond.initialized RJ6 ∈ gw_all := List.mem_filter.mpr ⟨mt_1 (List.mem_of_getElem? (i := 11) rfl), rfl⟩
set_option maxRecDepth 100000 in
theorem mw_63 : Cond.classLink RL 7 RX6 ∈ gw_all := List.mem_filter.mpr ⟨mt_1 (List.mem_of_getElem? (i := 12) rfl), rfl⟩
set_option maxRecDepth 100000 in
theorem mw_64 : Cond.instantiable RX6 12 ∈ gw_all := List.mem_filter.mpr ⟨mt_1 (List.mem_of_getElem? (i := 13) rfl), rfl⟩
set_option maxRecDepth 100000 in
theorem mw_65 : Cond.methodLink RL 9 yX6_init ∈ gw_all := List.mem_filter.mpr ⟨mt_1 (List.mem_of_getElem? (i := 14) rfl), rfl⟩
set_option maxRecDepth 100000 in
theorem mw_66 : Cond.instanceMethod yX6_init ∈ gw_all := List.mem_filter.mpr ⟨mt_1 (List.mem_of_getElem? (i := 15) rfl), rfl⟩
set_option maxRecDepth 100000 in
theorem mw_67 : Cond.code yX6_init cX6_init 2 none ∈ gw_all := List.mem_filter.mpr ⟨mt_1 (List.mem_of_getElem? (i := 16) rfl), rfl⟩
set_option maxRecDepth 100000 in
theorem mw_68 : Cond.methodLink RX6 3 objectInit ∈ gw_all := List.mem_filter.mpr ⟨mt_1 (List.mem_of_getElem? (i := 17) rfl), rfl⟩
set_option maxRecDepth 100000 in
theorem mw_69 : Cond.instanceMethod objectInit ∈ gw_all := List.mem_filter.mpr ⟨mt_1 (List.mem_of_getElem? (i := 18) rfl), rfl⟩
set_option maxRecDepth 100000 in
theorem mw_70 : Cond.code objectInit object_method_1_code 1 none ∈ gw_all := List.mem_filter.mpr ⟨mt_1 (List.mem_of_getElem? (i := 19) rfl), rfl⟩
set_option maxRecDepth 100000 in
theorem mw_71 : Cond.classLink RX6 9 RX5 ∈ gw_all := List.mem_filter.mpr ⟨mt_1 (List.mem_of_getElem? (i := 20) rfl), rfl⟩
set_option maxRecDepth 100000 in
theorem mw_72 : Cond.instantiable RX5 10 ∈ gw_all := List.mem_filter.mpr ⟨mt_1 (List.mem_of_getElem? (i := 21) rfl), rfl⟩
set_option maxRecDepth 100000 in
theorem mw_73 : Cond.methodLink RX6 11 yX5_init ∈ gw_all := List.mem_filter.mpr ⟨mt_1 (List.mem_of_getElem? (i := 22) rfl), rfl⟩
set_option maxRecDepth 100000 in
theorem mw_74 : Cond.instanceMethod yX5_init ∈ gw_all := List.mem_filter.mpr ⟨mt_1 (List.mem_of_getElem? (i := 23) rfl), rfl⟩
set_option maxRecDepth 100000 in
theorem mw_75 : Cond.code yX5_init cX5_init 2 none ∈ gw_all := List.mem_filter.mpr ⟨mt_1 (List.mem_of_getElem? (i := 24) rfl), rfl⟩
set_option maxRecDepth 100000 in
theorem mw_76 : Cond.methodLink RX5 3 objectInit ∈ gw_all := List.mem_filter.mpr ⟨mt_1 (List.mem_of_getElem? (i := 25) rfl), rfl⟩
set_option maxRecDepth 100000 in
theorem mw_77 : Cond.classLink RX5 21 RX2 ∈ gw_all := List.mem_filter.mpr ⟨mt_1 (List.mem_of_getElem? (i := 26) rfl), rfl⟩
set_option maxRecDepth 100000 in
theorem nw_78 : Cond.arrayOver (FieldType.object RX2) ∈ lw_tbl := mt_1 (List.mem_of_getElem? (i := 27) rfl)
set_option maxRecDepth 100000 in
theorem mw_79 : Cond.instantiable RX2 20 ∈ gw_all := List.mem_filter.mpr ⟨mt_1 (List.mem_of_getElem? (i := 28) rfl), rfl⟩
set_option maxRecDepth 100000 in
theorem mw_80 : Cond.methodLink RX5 46 yX2_init ∈ gw_all := List.mem_filter.mpr ⟨mt_1 (List.mem_of_getElem? (i := 29) rfl), rfl⟩
set_option maxRecDepth 100000 in
theorem mw_81 : Cond.instanceMethod yX2_init ∈ gw_all := List.mem_filter.mpr ⟨mt_1 (List.mem_of_getElem? (i := 30) rfl), rfl⟩
set_option maxRecDepth 100000 in
theorem mw_82 : Cond.code yX2_init cX2_init 2 none ∈ gw_all := List.mem_filter.mpr ⟨mt_1 (List.mem_of_getElem? (i := 31) rfl), rfl⟩
set_option maxRecDepth 100000 in
theorem mw_83 : Cond.methodLink RX2 3 objectInit ∈ gw_all := List.mem_filter.mpr ⟨mt_1 (List.mem_of_getElem? (i := 32) rfl), rfl⟩
set_option maxRecDepth 100000 in
theorem mw_84 : Cond.classLink RX2 9 RX3 ∈ gw_all := List.mem_filter.mpr ⟨mt_1 (List.mem_of_getElem? (i := 33) rfl), rfl⟩
set_option maxRecDepth 100000 in
theorem mw_85 : Cond.instantiable RX3 3 ∈ gw_all := List.mem_filter.mpr ⟨mt_1 (List.mem_of_getElem? (i := 34) rfl), rfl⟩
set_option maxRecDepth 100000 in
theorem nw_86 : Cond.methodLinkNest RX2 11 yX3_init RX6 ∈ lw_tbl := mt_1 (List.mem_of_getElem? (i := 35) rfl)
set_option maxRecDepth 100000 in
theorem mw_87 : Cond.instanceMethod yX3_init ∈ gw_all := List.mem_filter.mpr ⟨mt_1 (List.mem_of_getElem? (i := 36) rfl), rfl⟩
set_option maxRecDepth 100000 in
theorem mw_88 : Cond.code yX3_init cX3_init 1 none ∈ gw_all := List.mem_filter.mpr ⟨mt_1 (List.mem_of_getElem? (i := 37) rfl), rfl⟩
set_option maxRecDepth 100000 in
theorem mw_89 : Cond.methodLink RX3 3 objectInit ∈ gw_all := List.mem_filter.mpr ⟨mt_1 (List.mem_of_getElem? (i := 38) rfl), rfl⟩
set_option maxRecDepth 100000 in
theorem mw_90 : Cond.constant RX3 9 8388607 ∈ gw_all := List.mem_filter.mpr ⟨mt_1 (List.mem_of_getElem? (i := 39) rfl), rfl⟩
set_option maxRecDepth 100000 in
theorem mw_91 : Cond.fieldLink RX3 10 RX3 "map" "I" ∈ gw_all := List.mem_filter.mpr ⟨mt_1 (List.mem_of_getElem? (i := 40) rfl), rfl⟩
set_option maxRecDepth 100000 in
theorem mw_92 : Cond.fieldLink RX1 108 RX3 "map" "I" ∈ gw_all := List.mem_filter.mpr ⟨mt_1 (List.mem_of_getElem? (i := 41) rfl), rfl⟩
set_option maxRecDepth 100000 in
theorem mw_93 : Cond.fieldLink RX2 114 RX3 "map" "I" ∈ gw_all := List.mem_filter.mpr ⟨mt_1 (List.mem_of_getElem? (i := 42) rfl), rfl⟩
set_option maxRecDepth 100000 in
theorem mw_94 : Cond.fieldLink RX5 108 RX3 "map" "I" ∈ gw_all := List.mem_filter.mpr ⟨mt_1 (List.mem_of_getElem? (i := 43) rfl), rfl⟩
set_option maxRecDepth 100000 in
theorem mw_95 : Cond.fieldLink RX6 206 RX3 "map" "I" ∈ gw_all := List.mem_filter.mpr ⟨mt_1 (List.mem_of_getElem? (i := 44) rfl), rfl⟩
set_option maxRecDepth 100000 in
theorem mw_96 : Cond.fieldLink RX3 16 RX3 "next" "I" ∈ gw_all := List.mem_filter.mpr ⟨mt_1 (List.mem_of_getElem? (i := 45) rfl), rfl⟩
set_option maxRecDepth 100000 in
theorem mw_97 : Cond.fieldLink RX1 98 RX3 "next" "I" ∈ gw_all := List.mem_filter.mpr ⟨mt_1 (List.mem_of_getElem? (i := 46) rfl), rfl⟩
set_option maxRecDepth 100000 in
theorem mw_98 : Cond.fieldLink RX6 250 RX3 "next" "I" ∈ gw_all := List.mem_filter.mpr ⟨mt_1 (List.mem_of_getElem? (i := 47) rfl), rfl⟩
set_option maxRecDepth 100000 in
theorem mw_99 : Cond.fieldLink RX3 19 RX3 "instant" "I" ∈ gw_all := List.mem_filter.mpr ⟨mt_1 (List.mem_of_getElem? (i := 48) rfl), rfl⟩
set_option maxRecDepth 100000 in
theorem mw_100 : Cond.fieldLink RX1 101 RX3 "instant" "I" ∈ gw_all := List.mem_filter.mpr ⟨mt_1 (List.mem_of_getElem? (i := 49) rfl), rfl⟩
set_option maxRecDepth 100000 in
theorem mw_101 : Cond.fieldLink RX6 253 RX3 "instant" "I" ∈ gw_all := List.mem_filter.mpr ⟨mt_1 (List.mem_of_getElem? (i := 50) rfl), rfl⟩
set_option maxRecDepth 100000 in
theorem mw_102 : Cond.lays RX3 RX3 "map" "I" ∈ gw_all := List.mem_filter.mpr ⟨mt_1 (List.mem_of_getElem? (i := 51) rfl), rfl⟩
set_option maxRecDepth 100000 in
theorem mw_104 : Cond.lays RX3 RX3 "next" "I" ∈ gw_all := List.mem_filter.mpr ⟨mt_1 (List.mem_of_getElem? (i := 53) rfl), rfl⟩
set_option maxRecDepth 100000 in
theorem mw_106 : Cond.lays RX3 RX3 "instant" "I" ∈ gw_all := List.mem_filter.mpr ⟨mt_1 (List.mem_of_getElem? (i := 55) rfl), rfl⟩
set_option maxRecDepth 100000 in
theorem mw_109 : Cond.arrayClass FieldType.int ∈ gw_all := List.mem_filter.mpr ⟨mt_1 (List.mem_of_getElem? (i := 58) rfl), rfl⟩
set_option maxRecDepth 100000 in
theorem mw_110 : Cond.classLink RX2 28 RX1 ∈ gw_all := List.mem_filter.mpr ⟨mt_1 (List.mem_of_getElem? (i := 59) rfl), rfl⟩
set_option maxRecDepth 100000 in
theorem nw_111 : Cond.arrayOver (FieldType.object RX1) ∈ lw_tbl := mt_1 (List.mem_of_getElem? (i := 60) rfl)
set_option maxRecDepth 100000 in
theorem mw_112 : Cond.constant RX2 41 8388607 ∈ gw_all := List.mem_filter.mpr ⟨mt_1 (List.mem_of_getElem? (i := 61) rfl), rfl⟩
set_option maxRecDepth 100000 in
theorem mw_113 : Cond.instantiable RX1 18 ∈ gw_all := List.mem_filter.mpr ⟨mt_1 (List.mem_of_getElem? (i := 62) rfl), rfl⟩
set_option maxRecDepth 100000 in
theorem nw_114 : Cond.methodLinkNest RX2 82 yX1_init RX6 ∈ lw_tbl := mt_1 (List.mem_of_getElem? (i := 63) rfl)
set_option maxRecDepth 100000 in
theorem mw_115 : Cond.instanceMethod yX1_init ∈ gw_all := List.mem_filter.mpr ⟨mt_1 (List.mem_of_getElem? (i := 64) rfl), rfl⟩
set_option maxRecDepth 100000 in
theorem mw_116 : Cond.code yX1_init cX1_init 1 none ∈ gw_all := List.mem_filter.mpr ⟨mt_1 (List.mem_of_getElem? (i := 65) rfl), rfl⟩
set_option maxRecDepth 100000 in
theorem mw_117 : Cond.methodLink RX1 1 objectInit ∈ gw_all := List.mem_filter.mpr ⟨mt_1 (List.mem_of_getElem? (i := 66) rfl), rfl⟩
set_option maxRecDepth 100000 in
theorem mw_118 : Cond.classLink RX1 7 RX3 ∈ gw_all := List.mem_filter.mpr ⟨mt_1 (List.mem_of_getElem? (i := 67) rfl), rfl⟩
set_option maxRecDepth 100000 in
theorem nw_119 : Cond.methodLinkNest RX1 9 yX3_init RX6 ∈ lw_tbl := mt_1 (List.mem_of_getElem? (i := 68) rfl)
set_option maxRecDepth 100000 in
theorem mw_120 : Cond.classLink RX1 16 RX4 ∈ gw_all := List.mem_filter.mpr ⟨mt_1 (List.mem_of_getElem? (i := 69) rfl), rfl⟩
set_option maxRecDepth 100000 in
theorem mw_121 : Cond.instantiable RX4 8 ∈ gw_all := List.mem_filter.mpr ⟨mt_1 (List.mem_of_getElem? (i := 70) rfl), rfl⟩
set_option maxRecDepth 100000 in
theorem nw_122 : Cond.methodLinkNest RX1 18 yX4_init RX6 ∈ lw_tbl := mt_1 (List.mem_of_getElem? (i := 71) rfl)
set_option maxRecDepth 100000 in
theorem mw_123 : Cond.instanceMethod yX4_init ∈ gw_all := List.mem_filter.mpr ⟨mt_1 (List.mem_of_getElem? (i := 72) rfl), rfl⟩
set_option maxRecDepth 100000 in
theorem mw_124 : Cond.code yX4_init cX4_init 1 none ∈ gw_all := List.mem_filter.mpr ⟨mt_1 (List.mem_of_getElem? (i := 73) rfl), rfl⟩
set_option maxRecDepth 100000 in
theorem mw_125 : Cond.methodLink RX4 3 objectInit ∈ gw_all := List.mem_filter.mpr ⟨mt_1 (List.mem_of_getElem? (i := 74) rfl), rfl⟩
set_option maxRecDepth 100000 in
theorem mw_126 : Cond.fieldLink RX4 9 RX4 "numbers" "[I" ∈ gw_all := List.mem_filter.mpr ⟨mt_1 (List.mem_of_getElem? (i := 75) rfl), rfl⟩
set_option maxRecDepth 100000 in
theorem mw_127 : Cond.fieldLink RX5 277 RX4 "numbers" "[I" ∈ gw_all := List.mem_filter.mpr ⟨mt_1 (List.mem_of_getElem? (i := 76) rfl), rfl⟩
set_option maxRecDepth 100000 in
theorem mw_128 : Cond.fieldLink RX4 15 RX4 "since" "[I" ∈ gw_all := List.mem_filter.mpr ⟨mt_1 (List.mem_of_getElem? (i := 77) rfl), rfl⟩
set_option maxRecDepth 100000 in
theorem mw_129 : Cond.fieldLink RX4 18 RX4 "size" "I" ∈ gw_all := List.mem_filter.mpr ⟨mt_1 (List.mem_of_getElem? (i := 78) rfl), rfl⟩
set_option maxRecDepth 100000 in
theorem mw_130 : Cond.fieldLink RX6 153 RX4 "size" "I" ∈ gw_all := List.mem_filter.mpr ⟨mt_1 (List.mem_of_getElem? (i := 79) rfl), rfl⟩
set_option maxRecDepth 100000 in
theorem mw_131 : Cond.fieldLink RX5 300 RX4 "size" "I" ∈ gw_all := List.mem_filter.mpr ⟨mt_1 (List.mem_of_getElem? (i := 80) rfl), rfl⟩
set_option maxRecDepth 100000 in
theorem mw_132 : Cond.fieldLink RX4 22 RX4 "sendBit" "I" ∈ gw_all := List.mem_filter.mpr ⟨mt_1 (List.mem_of_getElem? (i := 81) rfl), rfl⟩
set_option maxRecDepth 100000 in
theorem mw_133 : Cond.fieldLink RX6 280 RX4 "sendBit" "I" ∈ gw_all := List.mem_filter.mpr ⟨mt_1 (List.mem_of_getElem? (i := 82) rfl), rfl⟩
set_option maxRecDepth 100000 in
theorem mw_134 : Cond.fieldLink RX4 25 RX4 "heardBit" "I" ∈ gw_all := List.mem_filter.mpr ⟨mt_1 (List.mem_of_getElem? (i := 83) rfl), rfl⟩
set_option maxRecDepth 100000 in
theorem mw_135 : Cond.fieldLink RX6 283 RX4 "heardBit" "I" ∈ gw_all := List.mem_filter.mpr ⟨mt_1 (List.mem_of_getElem? (i := 84) rfl), rfl⟩
set_option maxRecDepth 100000 in
theorem mw_136 : Cond.fieldLink RX4 28 RX4 "heard" "I" ∈ gw_all := List.mem_filter.mpr ⟨mt_1 (List.mem_of_getElem? (i := 85) rfl), rfl⟩
set_option maxRecDepth 100000 in
theorem mw_137 : Cond.fieldLink RX5 141 RX4 "heard" "I" ∈ gw_all := List.mem_filter.mpr ⟨mt_1 (List.mem_of_getElem? (i := 86) rfl), rfl⟩
set_option maxRecDepth 100000 in
theorem mw_138 : Cond.fieldLink RX6 274 RX4 "heard" "I" ∈ gw_all := List.mem_filter.mpr ⟨mt_1 (List.mem_of_getElem? (i := 87) rfl), rfl⟩
set_option maxRecDepth 100000 in
theorem mw_139 : Cond.fieldLink RX4 31 RX4 "hash" "I" ∈ gw_all := List.mem_filter.mpr ⟨mt_1 (List.mem_of_getElem? (i := 88) rfl), rfl⟩
set_option maxRecDepth 100000 in
theorem mw_140 : Cond.fieldLink RX6 301 RX4 "hash" "I" ∈ gw_all := List.mem_filter.mpr ⟨mt_1 (List.mem_of_getElem? (i := 89) rfl), rfl⟩
set_option maxRecDepth 100000 in
theorem mw_141 : Cond.fieldLink RX4 34 RX4 "greatestLag" "I" ∈ gw_all := List.mem_filter.mpr ⟨mt_1 (List.mem_of_getElem? (i := 90) rfl), rfl⟩
set_option maxRecDepth 100000 in
theorem mw_142 : Cond.fieldLink RX6 298 RX4 "greatestLag" "I" ∈ gw_all := List.mem_filter.mpr ⟨mt_1 (List.mem_of_getElem? (i := 91) rfl), rfl⟩
set_option maxRecDepth 100000 in
theorem mw_143 : Cond.laysFinal RX4 RX4 "numbers" "[I" ∈ gw_all := List.mem_filter.mpr ⟨mt_1 (List.mem_of_getElem? (i := 92) rfl), rfl⟩
set_option maxRecDepth 100000 in
theorem mw_145 : Cond.laysFinal RX4 RX4 "since" "[I" ∈ gw_all := List.mem_filter.mpr ⟨mt_1 (List.mem_of_getElem? (i := 94) rfl), rfl⟩
set_option maxRecDepth 100000 in
theorem mw_147 : Cond.lays RX4 RX4 "size" "I" ∈ gw_all := List.mem_filter.mpr ⟨mt_1 (List.mem_of_getElem? (i := 96) rfl), rfl⟩
set_option maxRecDepth 100000 in
theorem mw_149 : Cond.lays RX4 RX4 "sendBit" "I" ∈ gw_all := List.mem_filter.mpr ⟨mt_1 (List.mem_of_getElem? (i := 98) rfl), rfl⟩
set_option maxRecDepth 100000 in
theorem mw_151 : Cond.lays RX4 RX4 "heardBit" "I" ∈ gw_all := List.mem_filter.mpr ⟨mt_1 (List.mem_of_getElem? (i := 100) rfl), rfl⟩
set_option maxRecDepth 100000 in
theorem mw_153 : Cond.lays RX4 RX4 "heard" "I" ∈ gw_all := List.mem_filter.mpr ⟨mt_1 (List.mem_of_getElem? (i := 102) rfl), rfl⟩
set_option maxRecDepth 100000 in
theorem mw_155 : Cond.lays RX4 RX4 "hash" "I" ∈ gw_all := List.mem_filter.mpr ⟨mt_1 (List.mem_of_getElem? (i := 104) rfl), rfl⟩
set_option maxRecDepth 100000 in
theorem mw_157 : Cond.lays RX4 RX4 "greatestLag" "I" ∈ gw_all := List.mem_filter.mpr ⟨mt_1 (List.mem_of_getElem? (i := 106) rfl), rfl⟩
set_option maxRecDepth 100000 in
theorem mw_160 : Cond.classLink RX1 26 RX0 ∈ gw_all := List.mem_filter.mpr ⟨mt_1 (List.mem_of_getElem? (i := 109) rfl), rfl⟩
set_option maxRecDepth 100000 in
theorem mw_161 : Cond.instantiable RX0 6 ∈ gw_all := List.mem_filter.mpr ⟨mt_1 (List.mem_of_getElem? (i := 110) rfl), rfl⟩
set_option maxRecDepth 100000 in
theorem nw_162 : Cond.methodLinkNest RX1 28 yX0_init RX6 ∈ lw_tbl := mt_1 (List.mem_of_getElem? (i := 111) rfl)
set_option maxRecDepth 100000 in
theorem mw_163 : Cond.instanceMethod yX0_init ∈ gw_all := List.mem_filter.mpr ⟨mt_1 (List.mem_of_getElem? (i := 112) rfl), rfl⟩
set_option maxRecDepth 100000 in
theorem mw_164 : Cond.code yX0_init cX0_init 1 none ∈ gw_all := List.mem_filter.mpr ⟨mt_1 (List.mem_of_getElem? (i := 113) rfl), rfl⟩
set_option maxRecDepth 100000 in
theorem mw_165 : Cond.methodLink RX0 1 objectInit ∈ gw_all := List.mem_filter.mpr ⟨mt_1 (List.mem_of_getElem? (i := 114) rfl), rfl⟩
set_option maxRecDepth 100000 in
theorem mw_166 : Cond.fieldLink RX0 7 RX0 "period" "I" ∈ gw_all := List.mem_filter.mpr ⟨mt_1 (List.mem_of_getElem? (i := 115) rfl), rfl⟩
set_option maxRecDepth 100000 in
theorem mw_167 : Cond.fieldLink RX6 163 RX0 "period" "I" ∈ gw_all := List.mem_filter.mpr ⟨mt_1 (List.mem_of_getElem? (i := 116) rfl), rfl⟩
set_option maxRecDepth 100000 in
theorem mw_168 : Cond.fieldLink RX0 13 RX0 "phase" "I" ∈ gw_all := List.mem_filter.mpr ⟨mt_1 (List.mem_of_getElem? (i := 117) rfl), rfl⟩
set_option maxRecDepth 100000 in
theorem mw_169 : Cond.fieldLink RX6 307 RX0 "phase" "I" ∈ gw_all := List.mem_filter.mpr ⟨mt_1 (List.mem_of_getElem? (i := 118) rfl), rfl⟩
set_option maxRecDepth 100000 in
theorem mw_170 : Cond.fieldLink RX0 16 RX0 "window" "I" ∈ gw_all := List.mem_filter.mpr ⟨mt_1 (List.mem_of_getElem? (i := 119) rfl), rfl⟩
set_option maxRecDepth 100000 in
theorem mw_171 : Cond.fieldLink RX6 310 RX0 "window" "I" ∈ gw_all := List.mem_filter.mpr ⟨mt_1 (List.mem_of_getElem? (i := 120) rfl), rfl⟩
set_option maxRecDepth 100000 in
theorem mw_172 : Cond.fieldLink RX0 19 RX0 "got" "I" ∈ gw_all := List.mem_filter.mpr ⟨mt_1 (List.mem_of_getElem? (i := 121) rfl), rfl⟩
set_option maxRecDepth 100000 in
theorem mw_173 : Cond.fieldLink RX6 313 RX0 "got" "I" ∈ gw_all := List.mem_filter.mpr ⟨mt_1 (List.mem_of_getElem? (i := 122) rfl), rfl⟩
set_option maxRecDepth 100000 in
theorem mw_174 : Cond.fieldLink RX0 22 RX0 "missed" "I" ∈ gw_all := List.mem_filter.mpr ⟨mt_1 (List.mem_of_getElem? (i := 123) rfl), rfl⟩
set_option maxRecDepth 100000 in
theorem mw_175 : Cond.fieldLink RX5 132 RX0 "missed" "I" ∈ gw_all := List.mem_filter.mpr ⟨mt_1 (List.mem_of_getElem? (i := 124) rfl), rfl⟩
set_option maxRecDepth 100000 in
theorem mw_176 : Cond.fieldLink RX6 316 RX0 "missed" "I" ∈ gw_all := List.mem_filter.mpr ⟨mt_1 (List.mem_of_getElem? (i := 125) rfl), rfl⟩
set_option maxRecDepth 100000 in
theorem mw_177 : Cond.fieldLink RX0 25 RX0 "turnsLeft" "I" ∈ gw_all := List.mem_filter.mpr ⟨mt_1 (List.mem_of_getElem? (i := 126) rfl), rfl⟩
set_option maxRecDepth 100000 in
theorem mw_178 : Cond.fieldLink RX2 124 RX0 "turnsLeft" "I" ∈ gw_all := List.mem_filter.mpr ⟨mt_1 (List.mem_of_getElem? (i := 127) rfl), rfl⟩
set_option maxRecDepth 100000 in
theorem mw_179 : Cond.fieldLink RX6 319 RX0 "turnsLeft" "I" ∈ gw_all := List.mem_filter.mpr ⟨mt_1 (List.mem_of_getElem? (i := 128) rfl), rfl⟩
set_option maxRecDepth 100000 in
theorem mw_180 : Cond.lays RX0 RX0 "period" "I" ∈ gw_all := List.mem_filter.mpr ⟨mt_1 (List.mem_of_getElem? (i := 129) rfl), rfl⟩
set_option maxRecDepth 100000 in
theorem mw_182 : Cond.lays RX0 RX0 "phase" "I" ∈ gw_all := List.mem_filter.mpr ⟨mt_1 (List.mem_of_getElem? (i := 131) rfl), rfl⟩
set_option maxRecDepth 100000 in
theorem mw_184 : Cond.lays RX0 RX0 "window" "I" ∈ gw_all := List.mem_filter.mpr ⟨mt_1 (List.mem_of_getElem? (i := 133) rfl), rfl⟩
set_option maxRecDepth 100000 in
theorem mw_186 : Cond.lays RX0 RX0 "got" "I" ∈ gw_all := List.mem_filter.mpr ⟨mt_1 (List.mem_of_getElem? (i := 135) rfl), rfl⟩
set_option maxRecDepth 100000 in
theorem mw_188 : Cond.lays RX0 RX0 "missed" "I" ∈ gw_all := List.mem_filter.mpr ⟨mt_1 (List.mem_of_getElem? (i := 137) rfl), rfl⟩
set_option maxRecDepth 100000 in
theorem mw_190 : Cond.lays RX0 RX0 "turnsLeft" "I" ∈ gw_all := List.mem_filter.mpr ⟨mt_1 (List.mem_of_getElem? (i := 139) rfl), rfl⟩
set_option maxRecDepth 100000 in
theorem mw_193 : Cond.fieldLink RX1 10 RX1 "plan" "LHopNet$Plan;" ∈ gw_all := List.mem_filter.mpr ⟨mt_1 (List.mem_of_getElem? (i := 142) rfl), rfl⟩
set_option maxRecDepth 100000 in
theorem mw_194 : Cond.fieldLink RX5 117 RX1 "plan" "LHopNet$Plan;" ∈ gw_all := List.mem_filter.mpr ⟨mt_1 (List.mem_of_getElem? (i := 143) rfl), rfl⟩
set_option maxRecDepth 100000 in
theorem mw_195 : Cond.fieldLink RX2 132 RX1 "plan" "LHopNet$Plan;" ∈ gw_all := List.mem_filter.mpr ⟨mt_1 (List.mem_of_getElem? (i := 144) rfl), rfl⟩
set_option maxRecDepth 100000 in
theorem mw_196 : Cond.fieldLink RX6 237 RX1 "plan" "LHopNet$Plan;" ∈ gw_all := List.mem_filter.mpr ⟨mt_1 (List.mem_of_getElem? (i := 145) rfl), rfl⟩
set_option maxRecDepth 100000 in
theorem mw_197 : Cond.fieldLink RX1 19 RX1 "down" "LHopNet$Row;" ∈ gw_all := List.mem_filter.mpr ⟨mt_1 (List.mem_of_getElem? (i := 146) rfl), rfl⟩
set_option maxRecDepth 100000 in
theorem mw_198 : Cond.fieldLink RX6 135 RX1 "down" "LHopNet$Row;" ∈ gw_all := List.mem_filter.mpr ⟨mt_1 (List.mem_of_getElem? (i := 147) rfl), rfl⟩
set_option maxRecDepth 100000 in
theorem mw_199 : Cond.fieldLink RX5 137 RX1 "down" "LHopNet$Row;" ∈ gw_all := List.mem_filter.mpr ⟨mt_1 (List.mem_of_getElem? (i := 148) rfl), rfl⟩
set_option maxRecDepth 100000 in
theorem mw_200 : Cond.fieldLink RX1 23 RX1 "up" "LHopNet$Row;" ∈ gw_all := List.mem_filter.mpr ⟨mt_1 (List.mem_of_getElem? (i := 149) rfl), rfl⟩
set_option maxRecDepth 100000 in
theorem mw_201 : Cond.fieldLink RX6 141 RX1 "up" "LHopNet$Row;" ∈ gw_all := List.mem_filter.mpr ⟨mt_1 (List.mem_of_getElem? (i := 150) rfl), rfl⟩
set_option maxRecDepth 100000 in
theorem mw_202 : Cond.fieldLink RX5 146 RX1 "up" "LHopNet$Row;" ∈ gw_all := List.mem_filter.mpr ⟨mt_1 (List.mem_of_getElem? (i := 151) rfl), rfl⟩
set_option maxRecDepth 100000 in
theorem mw_203 : Cond.fieldLink RX1 29 RX1 "frames" "LHopNet$Frames;" ∈ gw_all := List.mem_filter.mpr ⟨mt_1 (List.mem_of_getElem? (i := 152) rfl), rfl⟩
set_option maxRecDepth 100000 in
theorem mw_204 : Cond.fieldLink RX6 159 RX1 "frames" "LHopNet$Frames;" ∈ gw_all := List.mem_filter.mpr ⟨mt_1 (List.mem_of_getElem? (i := 153) rfl), rfl⟩
set_option maxRecDepth 100000 in
theorem mw_205 : Cond.fieldLink RX2 120 RX1 "frames" "LHopNet$Frames;" ∈ gw_all := List.mem_filter.mpr ⟨mt_1 (List.mem_of_getElem? (i := 154) rfl), rfl⟩
set_option maxRecDepth 100000 in
theorem mw_206 : Cond.fieldLink RX5 128 RX1 "frames" "LHopNet$Frames;" ∈ gw_all := List.mem_filter.mpr ⟨mt_1 (List.mem_of_getElem? (i := 155) rfl), rfl⟩
set_option maxRecDepth 100000 in
theorem mw_207 : Cond.fieldLink RX1 33 RX1 "radio" "I" ∈ gw_all := List.mem_filter.mpr ⟨mt_1 (List.mem_of_getElem? (i := 156) rfl), rfl⟩
set_option maxRecDepth 100000 in
theorem mw_208 : Cond.fieldLink RX2 96 RX1 "radio" "I" ∈ gw_all := List.mem_filter.mpr ⟨mt_1 (List.mem_of_getElem? (i := 157) rfl), rfl⟩
set_option maxRecDepth 100000 in
theorem mw_209 : Cond.fieldLink RX5 72 RX1 "radio" "I" ∈ gw_all := List.mem_filter.mpr ⟨mt_1 (List.mem_of_getElem? (i := 158) rfl), rfl⟩
set_option maxRecDepth 100000 in
theorem mw_210 : Cond.fieldLink RX6 271 RX1 "radio" "I" ∈ gw_all := List.mem_filter.mpr ⟨mt_1 (List.mem_of_getElem? (i := 159) rfl), rfl⟩
set_option maxRecDepth 100000 in
theorem mw_211 : Cond.fieldLink RX1 41 RX1 "known" "Z" ∈ gw_all := List.mem_filter.mpr ⟨mt_1 (List.mem_of_getElem? (i := 160) rfl), rfl⟩
set_option maxRecDepth 100000 in
theorem mw_212 : Cond.fieldLink RX2 111 RX1 "known" "Z" ∈ gw_all := List.mem_filter.mpr ⟨mt_1 (List.mem_of_getElem? (i := 161) rfl), rfl⟩
set_option maxRecDepth 100000 in
theorem mw_213 : Cond.fieldLink RX6 246 RX1 "known" "Z" ∈ gw_all := List.mem_filter.mpr ⟨mt_1 (List.mem_of_getElem? (i := 162) rfl), rfl⟩
set_option maxRecDepth 100000 in
theorem mw_214 : Cond.fieldLink RX5 235 RX1 "known" "Z" ∈ gw_all := List.mem_filter.mpr ⟨mt_1 (List.mem_of_getElem? (i := 163) rfl), rfl⟩
set_option maxRecDepth 100000 in
theorem mw_215 : Cond.fieldLink RX1 48 RX1 "upWasHeard" "Z" ∈ gw_all := List.mem_filter.mpr ⟨mt_1 (List.mem_of_getElem? (i := 164) rfl), rfl⟩
set_option maxRecDepth 100000 in
theorem mw_216 : Cond.fieldLink RX5 260 RX1 "upWasHeard" "Z" ∈ gw_all := List.mem_filter.mpr ⟨mt_1 (List.mem_of_getElem? (i := 165) rfl), rfl⟩
set_option maxRecDepth 100000 in
theorem mw_217 : Cond.fieldLink RX1 55 RX1 "sniffPeriod" "I" ∈ gw_all := List.mem_filter.mpr ⟨mt_1 (List.mem_of_getElem? (i := 166) rfl), rfl⟩
set_option maxRecDepth 100000 in
theorem mw_218 : Cond.fieldLink RX6 172 RX1 "sniffPeriod" "I" ∈ gw_all := List.mem_filter.mpr ⟨mt_1 (List.mem_of_getElem? (i := 167) rfl), rfl⟩
set_option maxRecDepth 100000 in
theorem mw_219 : Cond.fieldLink RX1 58 RX1 "sniffTries" "I" ∈ gw_all := List.mem_filter.mpr ⟨mt_1 (List.mem_of_getElem? (i := 168) rfl), rfl⟩
set_option maxRecDepth 100000 in
theorem mw_220 : Cond.fieldLink RX6 175 RX1 "sniffTries" "I" ∈ gw_all := List.mem_filter.mpr ⟨mt_1 (List.mem_of_getElem? (i := 169) rfl), rfl⟩
set_option maxRecDepth 100000 in
theorem mw_221 : Cond.fieldLink RX1 61 RX1 "weight" "I" ∈ gw_all := List.mem_filter.mpr ⟨mt_1 (List.mem_of_getElem? (i := 170) rfl), rfl⟩
set_option maxRecDepth 100000 in
theorem mw_222 : Cond.fieldLink RX6 178 RX1 "weight" "I" ∈ gw_all := List.mem_filter.mpr ⟨mt_1 (List.mem_of_getElem? (i := 171) rfl), rfl⟩
set_option maxRecDepth 100000 in
theorem mw_223 : Cond.fieldLink RX2 129 RX1 "weight" "I" ∈ gw_all := List.mem_filter.mpr ⟨mt_1 (List.mem_of_getElem? (i := 172) rfl), rfl⟩
set_option maxRecDepth 100000 in
theorem mw_224 : Cond.fieldLink RX1 64 RX1 "castBit" "I" ∈ gw_all := List.mem_filter.mpr ⟨mt_1 (List.mem_of_getElem? (i := 173) rfl), rfl⟩
set_option maxRecDepth 100000 in
theorem mw_225 : Cond.fieldLink RX6 295 RX1 "castBit" "I" ∈ gw_all := List.mem_filter.mpr ⟨mt_1 (List.mem_of_getElem? (i := 174) rfl), rfl⟩
set_option maxRecDepth 100000 in
theorem mw_226 : Cond.fieldLink RX1 67 RX1 "castsHeard" "I" ∈ gw_all := List.mem_filter.mpr ⟨mt_1 (List.mem_of_getElem? (i := 175) rfl), rfl⟩
set_option maxRecDepth 100000 in
theorem mw_227 : Cond.fieldLink RX6 292 RX1 "castsHeard" "I" ∈ gw_all := List.mem_filter.mpr ⟨mt_1 (List.mem_of_getElem? (i := 176) rfl), rfl⟩
set_option maxRecDepth 100000 in
theorem mw_228 : Cond.fieldLink RX1 70 RX1 "castHash" "I" ∈ gw_all := List.mem_filter.mpr ⟨mt_1 (List.mem_of_getElem? (i := 177) rfl), rfl⟩
set_option maxRecDepth 100000 in
theorem mw_229 : Cond.fieldLink RX6 304 RX1 "castHash" "I" ∈ gw_all := List.mem_filter.mpr ⟨mt_1 (List.mem_of_getElem? (i := 178) rfl), rfl⟩
set_option maxRecDepth 100000 in
theorem mw_230 : Cond.fieldLink RX1 73 RX1 "timesChosen" "I" ∈ gw_all := List.mem_filter.mpr ⟨mt_1 (List.mem_of_getElem? (i := 179) rfl), rfl⟩
set_option maxRecDepth 100000 in
theorem mw_231 : Cond.fieldLink RX5 222 RX1 "timesChosen" "I" ∈ gw_all := List.mem_filter.mpr ⟨mt_1 (List.mem_of_getElem? (i := 180) rfl), rfl⟩
set_option maxRecDepth 100000 in
theorem mw_232 : Cond.fieldLink RX6 286 RX1 "timesChosen" "I" ∈ gw_all := List.mem_filter.mpr ⟨mt_1 (List.mem_of_getElem? (i := 181) rfl), rfl⟩
set_option maxRecDepth 100000 in
theorem mw_233 : Cond.fieldLink RX1 76 RX1 "turnsReady" "I" ∈ gw_all := List.mem_filter.mpr ⟨mt_1 (List.mem_of_getElem? (i := 182) rfl), rfl⟩
set_option maxRecDepth 100000 in
theorem mw_234 : Cond.fieldLink RX5 197 RX1 "turnsReady" "I" ∈ gw_all := List.mem_filter.mpr ⟨mt_1 (List.mem_of_getElem? (i := 183) rfl), rfl⟩
set_option maxRecDepth 100000 in
theorem mw_235 : Cond.fieldLink RX6 289 RX1 "turnsReady" "I" ∈ gw_all := List.mem_filter.mpr ⟨mt_1 (List.mem_of_getElem? (i := 184) rfl), rfl⟩
set_option maxRecDepth 100000 in
theorem mw_236 : Cond.fieldLink RX1 79 RX1 "why" "I" ∈ gw_all := List.mem_filter.mpr ⟨mt_1 (List.mem_of_getElem? (i := 185) rfl), rfl⟩
set_option maxRecDepth 100000 in
theorem mw_237 : Cond.fieldLink RX5 254 RX1 "why" "I" ∈ gw_all := List.mem_filter.mpr ⟨mt_1 (List.mem_of_getElem? (i := 186) rfl), rfl⟩
set_option maxRecDepth 100000 in
theorem mw_238 : Cond.fieldLink RX6 277 RX1 "why" "I" ∈ gw_all := List.mem_filter.mpr ⟨mt_1 (List.mem_of_getElem? (i := 187) rfl), rfl⟩
set_option maxRecDepth 100000 in
theorem mw_239 : Cond.fieldLink RX1 82 RX1 "lastHeard" "I" ∈ gw_all := List.mem_filter.mpr ⟨mt_1 (List.mem_of_getElem? (i := 188) rfl), rfl⟩
set_option maxRecDepth 100000 in
theorem mw_240 : Cond.fieldLink RX5 297 RX1 "lastHeard" "I" ∈ gw_all := List.mem_filter.mpr ⟨mt_1 (List.mem_of_getElem? (i := 189) rfl), rfl⟩
set_option maxRecDepth 100000 in
theorem mw_241 : Cond.fieldLink RX6 372 RX1 "lastHeard" "I" ∈ gw_all := List.mem_filter.mpr ⟨mt_1 (List.mem_of_getElem? (i := 190) rfl), rfl⟩
set_option maxRecDepth 100000 in
theorem mw_242 : Cond.fieldLink RX1 85 RX1 "isReady" "Z" ∈ gw_all := List.mem_filter.mpr ⟨mt_1 (List.mem_of_getElem? (i := 191) rfl), rfl⟩
set_option maxRecDepth 100000 in
theorem mw_243 : Cond.fieldLink RX2 117 RX1 "isReady" "Z" ∈ gw_all := List.mem_filter.mpr ⟨mt_1 (List.mem_of_getElem? (i := 192) rfl), rfl⟩
set_option maxRecDepth 100000 in
theorem mw_244 : Cond.fieldLink RX5 193 RX1 "isReady" "Z" ∈ gw_all := List.mem_filter.mpr ⟨mt_1 (List.mem_of_getElem? (i := 193) rfl), rfl⟩
set_option maxRecDepth 100000 in
theorem mw_245 : Cond.laysFinal RX1 RX1 "plan" "LHopNet$Plan;" ∈ gw_all := List.mem_filter.mpr ⟨mt_1 (List.mem_of_getElem? (i := 194) rfl), rfl⟩
set_option maxRecDepth 100000 in
theorem mw_247 : Cond.laysFinal RX1 RX1 "down" "LHopNet$Row;" ∈ gw_all := List.mem_filter.mpr ⟨mt_1 (List.mem_of_getElem? (i := 196) rfl), rfl⟩
set_option maxRecDepth 100000 in
theorem mw_249 : Cond.laysFinal RX1 RX1 "up" "LHopNet$Row;" ∈ gw_all := List.mem_filter.mpr ⟨mt_1 (List.mem_of_getElem? (i := 198) rfl), rfl⟩
set_option maxRecDepth 100000 in
theorem mw_251 : Cond.laysFinal RX1 RX1 "frames" "LHopNet$Frames;" ∈ gw_all := List.mem_filter.mpr ⟨mt_1 (List.mem_of_getElem? (i := 200) rfl), rfl⟩
set_option maxRecDepth 100000 in
theorem mw_253 : Cond.lays RX1 RX1 "radio" "I" ∈ gw_all := List.mem_filter.mpr ⟨mt_1 (List.mem_of_getElem? (i := 202) rfl), rfl⟩
set_option maxRecDepth 100000 in
theorem mw_255 : Cond.lays RX1 RX1 "known" "Z" ∈ gw_all := List.mem_filter.mpr ⟨mt_1 (List.mem_of_getElem? (i := 204) rfl), rfl⟩
set_option maxRecDepth 100000 in
theorem mw_257 : Cond.lays RX1 RX1 "upWasHeard" "Z" ∈ gw_all := List.mem_filter.mpr ⟨mt_1 (List.mem_of_getElem? (i := 206) rfl), rfl⟩
set_option maxRecDepth 100000 in
theorem mw_259 : Cond.lays RX1 RX1 "sniffPeriod" "I" ∈ gw_all := List.mem_filter.mpr ⟨mt_1 (List.mem_of_getElem? (i := 208) rfl), rfl⟩
set_option maxRecDepth 100000 in
theorem mw_261 : Cond.lays RX1 RX1 "sniffTries" "I" ∈ gw_all := List.mem_filter.mpr ⟨mt_1 (List.mem_of_getElem? (i := 210) rfl), rfl⟩
set_option maxRecDepth 100000 in
theorem mw_263 : Cond.lays RX1 RX1 "weight" "I" ∈ gw_all := List.mem_filter.mpr ⟨mt_1 (List.mem_of_getElem? (i := 212) rfl), rfl⟩
set_option maxRecDepth 100000 in
theorem mw_265 : Cond.lays RX1 RX1 "castBit" "I" ∈ gw_all := List.mem_filter.mpr ⟨mt_1 (List.mem_of_getElem? (i := 214) rfl), rfl⟩
set_option maxRecDepth 100000 in
theorem mw_267 : Cond.lays RX1 RX1 "castsHeard" "I" ∈ gw_all := List.mem_filter.mpr ⟨mt_1 (List.mem_of_getElem? (i := 216) rfl), rfl⟩
set_option maxRecDepth 100000 in
theorem mw_269 : Cond.lays RX1 RX1 "castHash" "I" ∈ gw_all := List.mem_filter.mpr ⟨mt_1 (List.mem_of_getElem? (i := 218) rfl), rfl⟩
set_option maxRecDepth 100000 in
theorem mw_271 : Cond.lays RX1 RX1 "timesChosen" "I" ∈ gw_all := List.mem_filter.mpr ⟨mt_1 (List.mem_of_getElem? (i := 220) rfl), rfl⟩
set_option maxRecDepth 100000 in
theorem mw_273 : Cond.lays RX1 RX1 "turnsReady" "I" ∈ gw_all := List.mem_filter.mpr ⟨mt_1 (List.mem_of_getElem? (i := 222) rfl), rfl⟩
set_option maxRecDepth 100000 in
theorem mw_275 : Cond.lays RX1 RX1 "why" "I" ∈ gw_all := List.mem_filter.mpr ⟨mt_1 (List.mem_of_getElem? (i := 224) rfl), rfl⟩
set_option maxRecDepth 100000 in
theorem mw_277 : Cond.lays RX1 RX1 "lastHeard" "I" ∈ gw_all := List.mem_filter.mpr ⟨mt_1 (List.mem_of_getElem? (i := 226) rfl), rfl⟩
set_option maxRecDepth 100000 in
theorem mw_279 : Cond.lays RX1 RX1 "isReady" "Z" ∈ gw_all := List.mem_filter.mpr ⟨mt_1 (List.mem_of_getElem? (i := 228) rfl), rfl⟩
set_option maxRecDepth 100000 in
theorem mw_282 : Cond.fieldLink RX2 12 RX2 "plan" "LHopNet$Plan;" ∈ gw_all := List.mem_filter.mpr ⟨mt_1 (List.mem_of_getElem? (i := 231) rfl), rfl⟩
set_option maxRecDepth 100000 in
theorem mw_283 : Cond.fieldLink RX5 104 RX2 "plan" "LHopNet$Plan;" ∈ gw_all := List.mem_filter.mpr ⟨mt_1 (List.mem_of_getElem? (i := 232) rfl), rfl⟩
set_option maxRecDepth 100000 in
theorem mw_284 : Cond.fieldLink RX6 190 RX2 "plan" "LHopNet$Plan;" ∈ gw_all := List.mem_filter.mpr ⟨mt_1 (List.mem_of_getElem? (i := 233) rfl), rfl⟩
set_option maxRecDepth 100000 in
theorem mw_285 : Cond.fieldLink RX2 18 RX2 "casts" "[I" ∈ gw_all := List.mem_filter.mpr ⟨mt_1 (List.mem_of_getElem? (i := 234) rfl), rfl⟩
set_option maxRecDepth 100000 in
theorem mw_286 : Cond.fieldLink RX6 184 RX2 "casts" "[I" ∈ gw_all := List.mem_filter.mpr ⟨mt_1 (List.mem_of_getElem? (i := 235) rfl), rfl⟩
set_option maxRecDepth 100000 in
theorem mw_287 : Cond.fieldLink RX2 22 RX2 "sentOn" "[I" ∈ gw_all := List.mem_filter.mpr ⟨mt_1 (List.mem_of_getElem? (i := 236) rfl), rfl⟩
set_option maxRecDepth 100000 in
theorem mw_288 : Cond.fieldLink RX6 265 RX2 "sentOn" "[I" ∈ gw_all := List.mem_filter.mpr ⟨mt_1 (List.mem_of_getElem? (i := 237) rfl), rfl⟩
set_option maxRecDepth 100000 in
theorem mw_289 : Cond.fieldLink RX2 25 RX2 "answeredOn" "[I" ∈ gw_all := List.mem_filter.mpr ⟨mt_1 (List.mem_of_getElem? (i := 238) rfl), rfl⟩
set_option maxRecDepth 100000 in
theorem mw_290 : Cond.fieldLink RX6 268 RX2 "answeredOn" "[I" ∈ gw_all := List.mem_filter.mpr ⟨mt_1 (List.mem_of_getElem? (i := 239) rfl), rfl⟩
set_option maxRecDepth 100000 in
theorem mw_291 : Cond.fieldLink RX2 30 RX2 "links" "[LHopNet$Link;" ∈ gw_all := List.mem_filter.mpr ⟨mt_2 (List.mem_of_getElem? (i := 0) rfl), rfl⟩
set_option maxRecDepth 100000 in
theorem mw_292 : Cond.fieldLink RX5 124 RX2 "links" "[LHopNet$Link;" ∈ gw_all := List.mem_filter.mpr ⟨mt_2 (List.mem_of_getElem? (i := 1) rfl), rfl⟩
set_option maxRecDepth 100000 in
theorem mw_293 : Cond.fieldLink RX6 368 RX2 "links" "[LHopNet$Link;" ∈ gw_all := List.mem_filter.mpr ⟨mt_2 (List.mem_of_getElem? (i := 2) rfl), rfl⟩
set_option maxRecDepth 100000 in
theorem mw_294 : Cond.fieldLink RX2 34 RX2 "master" "I" ∈ gw_all := List.mem_filter.mpr ⟨mt_2 (List.mem_of_getElem? (i := 3) rfl), rfl⟩
set_option maxRecDepth 100000 in
theorem mw_295 : Cond.fieldLink RX6 84 RX2 "master" "I" ∈ gw_all := List.mem_filter.mpr ⟨mt_2 (List.mem_of_getElem? (i := 4) rfl), rfl⟩
set_option maxRecDepth 100000 in
theorem mw_296 : Cond.fieldLink RX5 57 RX2 "master" "I" ∈ gw_all := List.mem_filter.mpr ⟨mt_2 (List.mem_of_getElem? (i := 5) rfl), rfl⟩
set_option maxRecDepth 100000 in
theorem mw_297 : Cond.fieldLink RX2 38 RX2 "offset" "I" ∈ gw_all := List.mem_filter.mpr ⟨mt_2 (List.mem_of_getElem? (i := 6) rfl), rfl⟩
set_option maxRecDepth 100000 in
theorem mw_298 : Cond.fieldLink RX6 89 RX2 "offset" "I" ∈ gw_all := List.mem_filter.mpr ⟨mt_2 (List.mem_of_getElem? (i := 7) rfl), rfl⟩
set_option maxRecDepth 100000 in
theorem mw_299 : Cond.fieldLink RX5 91 RX2 "offset" "I" ∈ gw_all := List.mem_filter.mpr ⟨mt_2 (List.mem_of_getElem? (i := 8) rfl), rfl⟩
set_option maxRecDepth 100000 in
theorem mw_300 : Cond.fieldLink RX2 42 RX2 "mapAhead" "I" ∈ gw_all := List.mem_filter.mpr ⟨mt_2 (List.mem_of_getElem? (i := 9) rfl), rfl⟩
set_option maxRecDepth 100000 in
theorem mw_301 : Cond.fieldLink RX5 183 RX2 "mapAhead" "I" ∈ gw_all := List.mem_filter.mpr ⟨mt_2 (List.mem_of_getElem? (i := 10) rfl), rfl⟩
set_option maxRecDepth 100000 in
theorem mw_302 : Cond.fieldLink RX6 256 RX2 "mapAhead" "I" ∈ gw_all := List.mem_filter.mpr ⟨mt_2 (List.mem_of_getElem? (i := 11) rfl), rfl⟩
set_option maxRecDepth 100000 in
theorem mw_303 : Cond.fieldLink RX2 45 RX2 "linkCount" "I" ∈ gw_all := List.mem_filter.mpr ⟨mt_2 (List.mem_of_getElem? (i := 12) rfl), rfl⟩
set_option maxRecDepth 100000 in
theorem mw_304 : Cond.fieldLink RX6 92 RX2 "linkCount" "I" ∈ gw_all := List.mem_filter.mpr ⟨mt_2 (List.mem_of_getElem? (i := 13) rfl), rfl⟩
set_option maxRecDepth 100000 in
theorem mw_305 : Cond.fieldLink RX5 121 RX2 "linkCount" "I" ∈ gw_all := List.mem_filter.mpr ⟨mt_2 (List.mem_of_getElem? (i := 14) rfl), rfl⟩
set_option maxRecDepth 100000 in
theorem mw_306 : Cond.fieldLink RX2 48 RX2 "polled" "I" ∈ gw_all := List.mem_filter.mpr ⟨mt_2 (List.mem_of_getElem? (i := 15) rfl), rfl⟩
set_option maxRecDepth 100000 in
theorem mw_307 : Cond.fieldLink RX6 375 RX2 "polled" "I" ∈ gw_all := List.mem_filter.mpr ⟨mt_2 (List.mem_of_getElem? (i := 16) rfl), rfl⟩
set_option maxRecDepth 100000 in
theorem mw_308 : Cond.fieldLink RX2 51 RX2 "pollsInRow" "I" ∈ gw_all := List.mem_filter.mpr ⟨mt_2 (List.mem_of_getElem? (i := 17) rfl), rfl⟩
set_option maxRecDepth 100000 in
theorem mw_309 : Cond.fieldLink RX2 54 RX2 "castCount" "I" ∈ gw_all := List.mem_filter.mpr ⟨mt_2 (List.mem_of_getElem? (i := 18) rfl), rfl⟩
set_option maxRecDepth 100000 in
theorem mw_310 : Cond.fieldLink RX6 181 RX2 "castCount" "I" ∈ gw_all := List.mem_filter.mpr ⟨mt_2 (List.mem_of_getElem? (i := 19) rfl), rfl⟩
set_option maxRecDepth 100000 in
theorem mw_311 : Cond.fieldLink RX5 216 RX2 "castCount" "I" ∈ gw_all := List.mem_filter.mpr ⟨mt_2 (List.mem_of_getElem? (i := 20) rfl), rfl⟩
set_option maxRecDepth 100000 in
theorem mw_312 : Cond.fieldLink RX2 57 RX2 "castBit" "I" ∈ gw_all := List.mem_filter.mpr ⟨mt_2 (List.mem_of_getElem? (i := 21) rfl), rfl⟩
set_option maxRecDepth 100000 in
theorem mw_313 : Cond.fieldLink RX6 381 RX2 "castBit" "I" ∈ gw_all := List.mem_filter.mpr ⟨mt_2 (List.mem_of_getElem? (i := 22) rfl), rfl⟩
set_option maxRecDepth 100000 in
theorem mw_314 : Cond.fieldLink RX2 60 RX2 "firstCastSent" "I" ∈ gw_all := List.mem_filter.mpr ⟨mt_2 (List.mem_of_getElem? (i := 23) rfl), rfl⟩
set_option maxRecDepth 100000 in
theorem mw_315 : Cond.fieldLink RX6 378 RX2 "firstCastSent" "I" ∈ gw_all := List.mem_filter.mpr ⟨mt_2 (List.mem_of_getElem? (i := 24) rfl), rfl⟩
set_option maxRecDepth 100000 in
theorem mw_316 : Cond.fieldLink RX2 63 RX2 "isCasting" "Z" ∈ gw_all := List.mem_filter.mpr ⟨mt_2 (List.mem_of_getElem? (i := 25) rfl), rfl⟩
set_option maxRecDepth 100000 in
theorem mw_317 : Cond.fieldLink RX5 206 RX2 "isCasting" "Z" ∈ gw_all := List.mem_filter.mpr ⟨mt_2 (List.mem_of_getElem? (i := 26) rfl), rfl⟩
set_option maxRecDepth 100000 in
theorem mw_318 : Cond.fieldLink RX6 356 RX2 "isCasting" "Z" ∈ gw_all := List.mem_filter.mpr ⟨mt_2 (List.mem_of_getElem? (i := 27) rfl), rfl⟩
set_option maxRecDepth 100000 in
theorem mw_319 : Cond.fieldLink RX2 67 RX2 "chosen" "I" ∈ gw_all := List.mem_filter.mpr ⟨mt_2 (List.mem_of_getElem? (i := 28) rfl), rfl⟩
set_option maxRecDepth 100000 in
theorem mw_320 : Cond.fieldLink RX5 203 RX2 "chosen" "I" ∈ gw_all := List.mem_filter.mpr ⟨mt_2 (List.mem_of_getElem? (i := 29) rfl), rfl⟩
set_option maxRecDepth 100000 in
theorem mw_321 : Cond.fieldLink RX6 359 RX2 "chosen" "I" ∈ gw_all := List.mem_filter.mpr ⟨mt_2 (List.mem_of_getElem? (i := 30) rfl), rfl⟩
set_option maxRecDepth 100000 in
theorem mw_322 : Cond.fieldLink RX2 70 RX2 "hopInSlot" "I" ∈ gw_all := List.mem_filter.mpr ⟨mt_2 (List.mem_of_getElem? (i := 31) rfl), rfl⟩
set_option maxRecDepth 100000 in
theorem mw_323 : Cond.fieldLink RX5 242 RX2 "hopInSlot" "I" ∈ gw_all := List.mem_filter.mpr ⟨mt_2 (List.mem_of_getElem? (i := 32) rfl), rfl⟩
set_option maxRecDepth 100000 in
theorem mw_324 : Cond.fieldLink RX2 73 RX2 "channelInSlot" "I" ∈ gw_all := List.mem_filter.mpr ⟨mt_2 (List.mem_of_getElem? (i := 33) rfl), rfl⟩
set_option maxRecDepth 100000 in
theorem mw_325 : Cond.fieldLink RX5 226 RX2 "channelInSlot" "I" ∈ gw_all := List.mem_filter.mpr ⟨mt_2 (List.mem_of_getElem? (i := 34) rfl), rfl⟩
set_option maxRecDepth 100000 in
theorem mw_326 : Cond.fieldLink RX2 76 RX2 "masterSentOn" "I" ∈ gw_all := List.mem_filter.mpr ⟨mt_2 (List.mem_of_getElem? (i := 35) rfl), rfl⟩
set_option maxRecDepth 100000 in
theorem mw_327 : Cond.fieldLink RX5 245 RX2 "masterSentOn" "I" ∈ gw_all := List.mem_filter.mpr ⟨mt_2 (List.mem_of_getElem? (i := 36) rfl), rfl⟩
set_option maxRecDepth 100000 in
theorem mw_328 : Cond.fieldLink RX2 79 RX2 "packetHeard" "Z" ∈ gw_all := List.mem_filter.mpr ⟨mt_2 (List.mem_of_getElem? (i := 37) rfl), rfl⟩
set_option maxRecDepth 100000 in
theorem mw_329 : Cond.fieldLink RX5 232 RX2 "packetHeard" "Z" ∈ gw_all := List.mem_filter.mpr ⟨mt_2 (List.mem_of_getElem? (i := 38) rfl), rfl⟩
set_option maxRecDepth 100000 in
theorem mw_330 : Cond.laysFinal RX2 RX2 "plan" "LHopNet$Plan;" ∈ gw_all := List.mem_filter.mpr ⟨mt_2 (List.mem_of_getElem? (i := 39) rfl), rfl⟩
set_option maxRecDepth 100000 in
theorem mw_332 : Cond.laysFinal RX2 RX2 "casts" "[I" ∈ gw_all := List.mem_filter.mpr ⟨mt_2 (List.mem_of_getElem? (i := 41) rfl), rfl⟩
set_option maxRecDepth 100000 in
theorem mw_334 : Cond.laysFinal RX2 RX2 "sentOn" "[I" ∈ gw_all := List.mem_filter.mpr ⟨mt_2 (List.mem_of_getElem? (i := 43) rfl), rfl⟩
set_option maxRecDepth 100000 in
theorem mw_336 : Cond.laysFinal RX2 RX2 "answeredOn" "[I" ∈ gw_all := List.mem_filter.mpr ⟨mt_2 (List.mem_of_getElem? (i := 45) rfl), rfl⟩
set_option maxRecDepth 100000 in
theorem mw_338 : Cond.laysFinal RX2 RX2 "links" "[LHopNet$Link;" ∈ gw_all := List.mem_filter.mpr ⟨mt_2 (List.mem_of_getElem? (i := 47) rfl), rfl⟩
set_option maxRecDepth 100000 in
theorem mw_340 : Cond.lays RX2 RX2 "master" "I" ∈ gw_all := List.mem_filter.mpr ⟨mt_2 (List.mem_of_getElem? (i := 49) rfl), rfl⟩
set_option maxRecDepth 100000 in
theorem mw_342 : Cond.lays RX2 RX2 "offset" "I" ∈ gw_all := List.mem_filter.mpr ⟨mt_2 (List.mem_of_getElem? (i := 51) rfl), rfl⟩
set_option maxRecDepth 100000 in
theorem mw_344 : Cond.lays RX2 RX2 "mapAhead" "I" ∈ gw_all := List.mem_filter.mpr ⟨mt_2 (List.mem_of_getElem? (i := 53) rfl), rfl⟩
set_option maxRecDepth 100000 in
theorem mw_346 : Cond.lays RX2 RX2 "linkCount" "I" ∈ gw_all := List.mem_filter.mpr ⟨mt_2 (List.mem_of_getElem? (i := 55) rfl), rfl⟩
set_option maxRecDepth 100000 in
theorem mw_348 : Cond.lays RX2 RX2 "polled" "I" ∈ gw_all := List.mem_filter.mpr ⟨mt_2 (List.mem_of_getElem? (i := 57) rfl), rfl⟩
set_option maxRecDepth 100000 in
theorem mw_350 : Cond.lays RX2 RX2 "pollsInRow" "I" ∈ gw_all := List.mem_filter.mpr ⟨mt_2 (List.mem_of_getElem? (i := 59) rfl), rfl⟩
set_option maxRecDepth 100000 in
theorem mw_352 : Cond.lays RX2 RX2 "castCount" "I" ∈ gw_all := List.mem_filter.mpr ⟨mt_2 (List.mem_of_getElem? (i := 61) rfl), rfl⟩
set_option maxRecDepth 100000 in
theorem mw_354 : Cond.lays RX2 RX2 "castBit" "I" ∈ gw_all := List.mem_filter.mpr ⟨mt_2 (List.mem_of_getElem? (i := 63) rfl), rfl⟩
set_option maxRecDepth 100000 in
theorem mw_356 : Cond.lays RX2 RX2 "firstCastSent" "I" ∈ gw_all := List.mem_filter.mpr ⟨mt_2 (List.mem_of_getElem? (i := 65) rfl), rfl⟩
set_option maxRecDepth 100000 in
theorem mw_358 : Cond.lays RX2 RX2 "isCasting" "Z" ∈ gw_all := List.mem_filter.mpr ⟨mt_2 (List.mem_of_getElem? (i := 67) rfl), rfl⟩
set_option maxRecDepth 100000 in
theorem mw_360 : Cond.lays RX2 RX2 "chosen" "I" ∈ gw_all := List.mem_filter.mpr ⟨mt_2 (List.mem_of_getElem? (i := 69) rfl), rfl⟩
set_option maxRecDepth 100000 in
theorem mw_362 : Cond.lays RX2 RX2 "hopInSlot" "I" ∈ gw_all := List.mem_filter.mpr ⟨mt_2 (List.mem_of_getElem? (i := 71) rfl), rfl⟩
set_option maxRecDepth 100000 in
theorem mw_364 : Cond.lays RX2 RX2 "channelInSlot" "I" ∈ gw_all := List.mem_filter.mpr ⟨mt_2 (List.mem_of_getElem? (i := 73) rfl), rfl⟩
set_option maxRecDepth 100000 in
theorem mw_366 : Cond.lays RX2 RX2 "masterSentOn" "I" ∈ gw_all := List.mem_filter.mpr ⟨mt_2 (List.mem_of_getElem? (i := 75) rfl), rfl⟩
set_option maxRecDepth 100000 in
theorem mw_368 : Cond.lays RX2 RX2 "packetHeard" "Z" ∈ gw_all := List.mem_filter.mpr ⟨mt_2 (List.mem_of_getElem? (i := 77) rfl), rfl⟩
set_option maxRecDepth 100000 in
theorem mw_371 : Cond.fieldLink RX5 9 RX5 "addresses" "[I" ∈ gw_all := List.mem_filter.mpr ⟨mt_2 (List.mem_of_getElem? (i := 80) rfl), rfl⟩
set_option maxRecDepth 100000 in
theorem mw_372 : Cond.fieldLink RX6 69 RX5 "addresses" "[I" ∈ gw_all := List.mem_filter.mpr ⟨mt_2 (List.mem_of_getElem? (i := 81) rfl), rfl⟩
set_option maxRecDepth 100000 in
theorem mw_373 : Cond.fieldLink RX5 15 RX5 "noises" "[I" ∈ gw_all := List.mem_filter.mpr ⟨mt_2 (List.mem_of_getElem? (i := 82) rfl), rfl⟩
set_option maxRecDepth 100000 in
theorem mw_374 : Cond.fieldLink RX6 116 RX5 "noises" "[I" ∈ gw_all := List.mem_filter.mpr ⟨mt_2 (List.mem_of_getElem? (i := 83) rfl), rfl⟩
set_option maxRecDepth 100000 in
theorem mw_375 : Cond.fieldLink RX5 18 RX5 "tallies" "[I" ∈ gw_all := List.mem_filter.mpr ⟨mt_2 (List.mem_of_getElem? (i := 84) rfl), rfl⟩
set_option maxRecDepth 100000 in
theorem mw_376 : Cond.fieldLink RX6 385 RX5 "tallies" "[I" ∈ gw_all := List.mem_filter.mpr ⟨mt_2 (List.mem_of_getElem? (i := 85) rfl), rfl⟩
set_option maxRecDepth 100000 in
theorem mw_377 : Cond.fieldLink RX5 23 RX5 "nets" "[LHopNet$Net;" ∈ gw_all := List.mem_filter.mpr ⟨mt_2 (List.mem_of_getElem? (i := 86) rfl), rfl⟩
set_option maxRecDepth 100000 in
theorem mw_378 : Cond.fieldLink RX6 80 RX5 "nets" "[LHopNet$Net;" ∈ gw_all := List.mem_filter.mpr ⟨mt_2 (List.mem_of_getElem? (i := 87) rfl), rfl⟩
set_option maxRecDepth 100000 in
theorem mw_379 : Cond.fieldLink RX5 27 RX5 "radioCount" "I" ∈ gw_all := List.mem_filter.mpr ⟨mt_2 (List.mem_of_getElem? (i := 88) rfl), rfl⟩
set_option maxRecDepth 100000 in
theorem mw_380 : Cond.fieldLink RX6 62 RX5 "radioCount" "I" ∈ gw_all := List.mem_filter.mpr ⟨mt_2 (List.mem_of_getElem? (i := 89) rfl), rfl⟩
set_option maxRecDepth 100000 in
theorem mw_381 : Cond.fieldLink RX5 31 RX5 "time" "I" ∈ gw_all := List.mem_filter.mpr ⟨mt_2 (List.mem_of_getElem? (i := 90) rfl), rfl⟩
set_option maxRecDepth 100000 in
theorem mw_382 : Cond.fieldLink RX6 102 RX5 "time" "I" ∈ gw_all := List.mem_filter.mpr ⟨mt_2 (List.mem_of_getElem? (i := 91) rfl), rfl⟩
set_option maxRecDepth 100000 in
theorem mw_383 : Cond.fieldLink RX5 34 RX5 "seed" "I" ∈ gw_all := List.mem_filter.mpr ⟨mt_2 (List.mem_of_getElem? (i := 92) rfl), rfl⟩
set_option maxRecDepth 100000 in
theorem mw_384 : Cond.fieldLink RX6 123 RX5 "seed" "I" ∈ gw_all := List.mem_filter.mpr ⟨mt_2 (List.mem_of_getElem? (i := 93) rfl), rfl⟩
set_option maxRecDepth 100000 in
theorem mw_385 : Cond.fieldLink RX5 37 RX5 "share" "I" ∈ gw_all := List.mem_filter.mpr ⟨mt_2 (List.mem_of_getElem? (i := 94) rfl), rfl⟩
set_option maxRecDepth 100000 in
theorem mw_386 : Cond.fieldLink RX6 126 RX5 "share" "I" ∈ gw_all := List.mem_filter.mpr ⟨mt_2 (List.mem_of_getElem? (i := 95) rfl), rfl⟩
set_option maxRecDepth 100000 in
theorem mw_387 : Cond.fieldLink RX5 40 RX5 "repeats" "I" ∈ gw_all := List.mem_filter.mpr ⟨mt_2 (List.mem_of_getElem? (i := 96) rfl), rfl⟩
set_option maxRecDepth 100000 in
theorem mw_388 : Cond.fieldLink RX6 129 RX5 "repeats" "I" ∈ gw_all := List.mem_filter.mpr ⟨mt_2 (List.mem_of_getElem? (i := 97) rfl), rfl⟩
set_option maxRecDepth 100000 in
theorem mw_389 : Cond.fieldLink RX5 43 RX5 "heardNow" "I" ∈ gw_all := List.mem_filter.mpr ⟨mt_2 (List.mem_of_getElem? (i := 98) rfl), rfl⟩
set_option maxRecDepth 100000 in
theorem mw_390 : Cond.laysFinal RX5 RX5 "addresses" "[I" ∈ gw_all := List.mem_filter.mpr ⟨mt_2 (List.mem_of_getElem? (i := 99) rfl), rfl⟩
set_option maxRecDepth 100000 in
theorem mw_392 : Cond.laysFinal RX5 RX5 "noises" "[I" ∈ gw_all := List.mem_filter.mpr ⟨mt_2 (List.mem_of_getElem? (i := 101) rfl), rfl⟩
set_option maxRecDepth 100000 in
theorem mw_394 : Cond.laysFinal RX5 RX5 "tallies" "[I" ∈ gw_all := List.mem_filter.mpr ⟨mt_2 (List.mem_of_getElem? (i := 103) rfl), rfl⟩
set_option maxRecDepth 100000 in
theorem mw_396 : Cond.laysFinal RX5 RX5 "nets" "[LHopNet$Net;" ∈ gw_all := List.mem_filter.mpr ⟨mt_2 (List.mem_of_getElem? (i := 105) rfl), rfl⟩
set_option maxRecDepth 100000 in
theorem mw_398 : Cond.lays RX5 RX5 "radioCount" "I" ∈ gw_all := List.mem_filter.mpr ⟨mt_2 (List.mem_of_getElem? (i := 107) rfl), rfl⟩
set_option maxRecDepth 100000 in
theorem mw_400 : Cond.lays RX5 RX5 "time" "I" ∈ gw_all := List.mem_filter.mpr ⟨mt_2 (List.mem_of_getElem? (i := 109) rfl), rfl⟩
set_option maxRecDepth 100000 in
theorem mw_402 : Cond.lays RX5 RX5 "seed" "I" ∈ gw_all := List.mem_filter.mpr ⟨mt_2 (List.mem_of_getElem? (i := 111) rfl), rfl⟩
set_option maxRecDepth 100000 in
theorem mw_404 : Cond.lays RX5 RX5 "share" "I" ∈ gw_all := List.mem_filter.mpr ⟨mt_2 (List.mem_of_getElem? (i := 113) rfl), rfl⟩
set_option maxRecDepth 100000 in
theorem mw_406 : Cond.lays RX5 RX5 "repeats" "I" ∈ gw_all := List.mem_filter.mpr ⟨mt_2 (List.mem_of_getElem? (i := 115) rfl), rfl⟩
set_option maxRecDepth 100000 in
theorem mw_408 : Cond.lays RX5 RX5 "heardNow" "I" ∈ gw_all := List.mem_filter.mpr ⟨mt_2 (List.mem_of_getElem? (i := 117) rfl), rfl⟩
set_option maxRecDepth 100000 in
theorem nw_411 : Cond.arrayOver (FieldType.object RX5) ∈ lw_tbl := mt_2 (List.mem_of_getElem? (i := 120) rfl)
set_option maxRecDepth 100000 in
theorem mw_412 : Cond.fieldLink RX6 12 RX6 "world" "LHopNet$World;" ∈ gw_all := List.mem_filter.mpr ⟨mt_2 (List.mem_of_getElem? (i := 121) rfl), rfl⟩
set_option maxRecDepth 100000 in
theorem mw_413 : Cond.fieldLink RX6 16 RX6 "paper" "LHopNet$World;" ∈ gw_all := List.mem_filter.mpr ⟨mt_2 (List.mem_of_getElem? (i := 122) rfl), rfl⟩
set_option maxRecDepth 100000 in
theorem mw_414 : Cond.fieldLink RX6 19 RX6 "images" "[LHopNet$World;" ∈ gw_all := List.mem_filter.mpr ⟨mt_2 (List.mem_of_getElem? (i := 123) rfl), rfl⟩
set_option maxRecDepth 100000 in
theorem mw_415 : Cond.fieldLink RX6 23 RX6 "imageKept" "[Z" ∈ gw_all := List.mem_filter.mpr ⟨mt_2 (List.mem_of_getElem? (i := 124) rfl), rfl⟩
set_option maxRecDepth 100000 in
theorem mw_416 : Cond.fieldLink RX6 27 RX6 "past" "[LHopNet$World;" ∈ gw_all := List.mem_filter.mpr ⟨mt_2 (List.mem_of_getElem? (i := 125) rfl), rfl⟩
set_option maxRecDepth 100000 in
theorem mw_417 : Cond.fieldLink RX6 30 RX6 "pastActs" "[I" ∈ gw_all := List.mem_filter.mpr ⟨mt_2 (List.mem_of_getElem? (i := 126) rfl), rfl⟩
set_option maxRecDepth 100000 in
theorem mw_418 : Cond.fieldLink RX6 34 RX6 "pastNext" "I" ∈ gw_all := List.mem_filter.mpr ⟨mt_2 (List.mem_of_getElem? (i := 127) rfl), rfl⟩
set_option maxRecDepth 100000 in
theorem mw_419 : Cond.fieldLink RX6 38 RX6 "pastCount" "I" ∈ gw_all := List.mem_filter.mpr ⟨mt_2 (List.mem_of_getElem? (i := 128) rfl), rfl⟩
set_option maxRecDepth 100000 in
theorem mw_420 : Cond.fieldLink RX6 41 RX6 "refusals" "[I" ∈ gw_all := List.mem_filter.mpr ⟨mt_2 (List.mem_of_getElem? (i := 129) rfl), rfl⟩
set_option maxRecDepth 100000 in
theorem mw_421 : Cond.fieldLink RX6 44 RX6 "latestRefusal" "I" ∈ gw_all := List.mem_filter.mpr ⟨mt_2 (List.mem_of_getElem? (i := 130) rfl), rfl⟩
set_option maxRecDepth 100000 in
theorem mw_422 : Cond.fieldLink RX6 47 RX6 "hopsOfFirst" "[I" ∈ gw_all := List.mem_filter.mpr ⟨mt_2 (List.mem_of_getElem? (i := 131) rfl), rfl⟩
set_option maxRecDepth 100000 in
theorem mw_423 : Cond.fieldLink RX6 50 RX6 "hopsOfSecond" "[I" ∈ gw_all := List.mem_filter.mpr ⟨mt_2 (List.mem_of_getElem? (i := 132) rfl), rfl⟩
set_option maxRecDepth 100000 in
theorem mw_424 : Cond.laysFinal RX6 RX6 "world" "LHopNet$World;" ∈ gw_all := List.mem_filter.mpr ⟨mt_2 (List.mem_of_getElem? (i := 133) rfl), rfl⟩
set_option maxRecDepth 100000 in
theorem mw_426 : Cond.laysFinal RX6 RX6 "paper" "LHopNet$World;" ∈ gw_all := List.mem_filter.mpr ⟨mt_2 (List.mem_of_getElem? (i := 135) rfl), rfl⟩
set_option maxRecDepth 100000 in
theorem mw_428 : Cond.laysFinal RX6 RX6 "images" "[LHopNet$World;" ∈ gw_all := List.mem_filter.mpr ⟨mt_2 (List.mem_of_getElem? (i := 137) rfl), rfl⟩
set_option maxRecDepth 100000 in
theorem mw_430 : Cond.laysFinal RX6 RX6 "imageKept" "[Z" ∈ gw_all := List.mem_filter.mpr ⟨mt_2 (List.mem_of_getElem? (i := 139) rfl), rfl⟩
set_option maxRecDepth 100000 in
theorem mw_432 : Cond.laysFinal RX6 RX6 "past" "[LHopNet$World;" ∈ gw_all := List.mem_filter.mpr ⟨mt_2 (List.mem_of_getElem? (i := 141) rfl), rfl⟩
set_option maxRecDepth 100000 in
theorem mw_434 : Cond.laysFinal RX6 RX6 "pastActs" "[I" ∈ gw_all := List.mem_filter.mpr ⟨mt_2 (List.mem_of_getElem? (i := 143) rfl), rfl⟩
set_option maxRecDepth 100000 in
theorem mw_436 : Cond.lays RX6 RX6 "pastNext" "I" ∈ gw_all := List.mem_filter.mpr ⟨mt_2 (List.mem_of_getElem? (i := 145) rfl), rfl⟩
set_option maxRecDepth 100000 in
theorem mw_438 : Cond.lays RX6 RX6 "pastCount" "I" ∈ gw_all := List.mem_filter.mpr ⟨mt_2 (List.mem_of_getElem? (i := 147) rfl), rfl⟩
set_option maxRecDepth 100000 in
theorem mw_440 : Cond.laysFinal RX6 RX6 "refusals" "[I" ∈ gw_all := List.mem_filter.mpr ⟨mt_2 (List.mem_of_getElem? (i := 149) rfl), rfl⟩
set_option maxRecDepth 100000 in
theorem mw_442 : Cond.lays RX6 RX6 "latestRefusal" "I" ∈ gw_all := List.mem_filter.mpr ⟨mt_2 (List.mem_of_getElem? (i := 151) rfl), rfl⟩
set_option maxRecDepth 100000 in
theorem mw_444 : Cond.laysFinal RX6 RX6 "hopsOfFirst" "[I" ∈ gw_all := List.mem_filter.mpr ⟨mt_2 (List.mem_of_getElem? (i := 153) rfl), rfl⟩
set_option maxRecDepth 100000 in
theorem mw_446 : Cond.laysFinal RX6 RX6 "hopsOfSecond" "[I" ∈ gw_all := List.mem_filter.mpr ⟨mt_2 (List.mem_of_getElem? (i := 155) rfl), rfl⟩
set_option maxRecDepth 100000 in
theorem mw_449 : Cond.arrayClass FieldType.boolean ∈ gw_all := List.mem_filter.mpr ⟨mt_2 (List.mem_of_getElem? (i := 158) rfl), rfl⟩
set_option maxRecDepth 100000 in
theorem mw_450 : Cond.methodLink RL 13 yX6_radio ∈ gw_all := List.mem_filter.mpr ⟨mt_2 (List.mem_of_getElem? (i := 159) rfl), rfl⟩
set_option maxRecDepth 100000 in
theorem mw_451 : Cond.instanceMethod yX6_radio ∈ gw_all := List.mem_filter.mpr ⟨mt_2 (List.mem_of_getElem? (i := 160) rfl), rfl⟩
set_option maxRecDepth 100000 in
theorem mw_452 : Cond.selects RX6 yX6_radio yX6_radio ∈ gw_all := List.mem_filter.mpr ⟨mt_2 (List.mem_of_getElem? (i := 161) rfl), rfl⟩
set_option maxRecDepth 100000 in
theorem mw_453 : Cond.code yX6_radio cX6_radio 2 (some .int) ∈ gw_all := List.mem_filter.mpr ⟨mt_2 (List.mem_of_getElem? (i := 162) rfl), rfl⟩
set_option maxRecDepth 100000 in
theorem mw_454 : Cond.constant RX6 53 268435455 ∈ gw_all := List.mem_filter.mpr ⟨mt_2 (List.mem_of_getElem? (i := 163) rfl), rfl⟩
set_option maxRecDepth 100000 in
theorem mw_455 : Cond.methodLink RX6 54 yX6_isWithin ∈ gw_all := List.mem_filter.mpr ⟨mt_2 (List.mem_of_getElem? (i := 164) rfl), rfl⟩
set_option maxRecDepth 100000 in
theorem mw_456 : Cond.static yX6_isWithin ∈ gw_all := List.mem_filter.mpr ⟨mt_2 (List.mem_of_getElem? (i := 165) rfl), rfl⟩
set_option maxRecDepth 100000 in
theorem mw_457 : Cond.code yX6_isWithin cX6_isWithin 3 (some .boolean) ∈ gw_all := List.mem_filter.mpr ⟨mt_2 (List.mem_of_getElem? (i := 166) rfl), rfl⟩
set_option maxRecDepth 100000 in
theorem mw_458 : Cond.methodLink RX6 58 yX6_refuse ∈ gw_all := List.mem_filter.mpr ⟨mt_2 (List.mem_of_getElem? (i := 167) rfl), rfl⟩
set_option maxRecDepth 100000 in
theorem mw_460 : Cond.instanceMethod yX6_refuse ∈ gw_all := List.mem_filter.mpr ⟨mt_2 (List.mem_of_getElem? (i := 169) rfl), rfl⟩
set_option maxRecDepth 100000 in
theorem mw_461 : Cond.code yX6_refuse cX6_refuse 3 (some .int) ∈ gw_all := List.mem_filter.mpr ⟨mt_2 (List.mem_of_getElem? (i := 170) rfl), rfl⟩
set_option maxRecDepth 100000 in
theorem mw_462 : Cond.methodLink RX6 65 yX6_keepForUndo ∈ gw_all := List.mem_filter.mpr ⟨mt_2 (List.mem_of_getElem? (i := 171) rfl), rfl⟩
set_option maxRecDepth 100000 in
theorem mw_464 : Cond.instanceMethod yX6_keepForUndo ∈ gw_all := List.mem_filter.mpr ⟨mt_2 (List.mem_of_getElem? (i := 173) rfl), rfl⟩
set_option maxRecDepth 100000 in
theorem mw_465 : Cond.code yX6_keepForUndo cX6_keepForUndo 2 none ∈ gw_all := List.mem_filter.mpr ⟨mt_2 (List.mem_of_getElem? (i := 174) rfl), rfl⟩
set_option maxRecDepth 100000 in
theorem mw_466 : Cond.methodLink RX6 219 yX5_copyFrom ∈ gw_all := List.mem_filter.mpr ⟨mt_2 (List.mem_of_getElem? (i := 175) rfl), rfl⟩
set_option maxRecDepth 100000 in
theorem mw_467 : Cond.instanceMethod yX5_copyFrom ∈ gw_all := List.mem_filter.mpr ⟨mt_2 (List.mem_of_getElem? (i := 176) rfl), rfl⟩
set_option maxRecDepth 100000 in
theorem mw_468 : Cond.selects RX5 yX5_copyFrom yX5_copyFrom ∈ gw_all := List.mem_filter.mpr ⟨mt_2 (List.mem_of_getElem? (i := 177) rfl), rfl⟩
set_option maxRecDepth 100000 in
theorem mw_469 : Cond.code yX5_copyFrom cX5_copyFrom 3 none ∈ gw_all := List.mem_filter.mpr ⟨mt_2 (List.mem_of_getElem? (i := 178) rfl), rfl⟩
set_option maxRecDepth 100000 in
theorem mw_470 : Cond.methodLink RX5 47 arraycopyName ∈ gw_all := List.mem_filter.mpr ⟨mt_2 (List.mem_of_getElem? (i := 179) rfl), rfl⟩
set_option maxRecDepth 100000 in
theorem mw_471 : Cond.static arraycopyName ∈ gw_all := List.mem_filter.mpr ⟨mt_2 (List.mem_of_getElem? (i := 180) rfl), rfl⟩
set_option maxRecDepth 100000 in
theorem mw_472 : Cond.native arraycopyName ∈ gw_all := List.mem_filter.mpr ⟨mt_2 (List.mem_of_getElem? (i := 181) rfl), rfl⟩
set_option maxRecDepth 100000 in
theorem mw_473 : Cond.methodLink RX5 53 yX2_copyFrom ∈ gw_all := List.mem_filter.mpr ⟨mt_2 (List.mem_of_getElem? (i := 182) rfl), rfl⟩
set_option maxRecDepth 100000 in
theorem mw_474 : Cond.instanceMethod yX2_copyFrom ∈ gw_all := List.mem_filter.mpr ⟨mt_2 (List.mem_of_getElem? (i := 183) rfl), rfl⟩
set_option maxRecDepth 100000 in
theorem mw_475 : Cond.selects RX2 yX2_copyFrom yX2_copyFrom ∈ gw_all := List.mem_filter.mpr ⟨mt_2 (List.mem_of_getElem? (i := 184) rfl), rfl⟩
set_option maxRecDepth 100000 in
theorem mw_476 : Cond.code yX2_copyFrom cX2_copyFrom 3 none ∈ gw_all := List.mem_filter.mpr ⟨mt_2 (List.mem_of_getElem? (i := 185) rfl), rfl⟩
set_option maxRecDepth 100000 in
theorem mw_477 : Cond.methodLink RX2 83 yX3_copyFrom ∈ gw_all := List.mem_filter.mpr ⟨mt_2 (List.mem_of_getElem? (i := 186) rfl), rfl⟩
set_option maxRecDepth 100000 in
theorem mw_478 : Cond.instanceMethod yX3_copyFrom ∈ gw_all := List.mem_filter.mpr ⟨mt_2 (List.mem_of_getElem? (i := 187) rfl), rfl⟩
set_option maxRecDepth 100000 in
theorem mw_479 : Cond.selects RX3 yX3_copyFrom yX3_copyFrom ∈ gw_all := List.mem_filter.mpr ⟨mt_2 (List.mem_of_getElem? (i := 188) rfl), rfl⟩
set_option maxRecDepth 100000 in
theorem mw_480 : Cond.code yX3_copyFrom cX3_copyFrom 2 none ∈ gw_all := List.mem_filter.mpr ⟨mt_2 (List.mem_of_getElem? (i := 189) rfl), rfl⟩
set_option maxRecDepth 100000 in
theorem mw_481 : Cond.methodLink RX2 87 arraycopyName ∈ gw_all := List.mem_filter.mpr ⟨mt_2 (List.mem_of_getElem? (i := 190) rfl), rfl⟩
set_option maxRecDepth 100000 in
theorem mw_482 : Cond.methodLink RX2 93 yX1_copyFrom ∈ gw_all := List.mem_filter.mpr ⟨mt_2 (List.mem_of_getElem? (i := 191) rfl), rfl⟩
set_option maxRecDepth 100000 in
theorem mw_483 : Cond.instanceMethod yX1_copyFrom ∈ gw_all := List.mem_filter.mpr ⟨mt_2 (List.mem_of_getElem? (i := 192) rfl), rfl⟩
set_option maxRecDepth 100000 in
theorem mw_484 : Cond.selects RX1 yX1_copyFrom yX1_copyFrom ∈ gw_all := List.mem_filter.mpr ⟨mt_2 (List.mem_of_getElem? (i := 193) rfl), rfl⟩
set_option maxRecDepth 100000 in
theorem mw_485 : Cond.code yX1_copyFrom cX1_copyFrom 2 none ∈ gw_all := List.mem_filter.mpr ⟨mt_2 (List.mem_of_getElem? (i := 194) rfl), rfl⟩
set_option maxRecDepth 100000 in
theorem mw_486 : Cond.methodLink RX1 37 yX3_copyFrom ∈ gw_all := List.mem_filter.mpr ⟨mt_2 (List.mem_of_getElem? (i := 195) rfl), rfl⟩
set_option maxRecDepth 100000 in
theorem mw_487 : Cond.methodLink RX1 88 yX4_copyFrom ∈ gw_all := List.mem_filter.mpr ⟨mt_2 (List.mem_of_getElem? (i := 196) rfl), rfl⟩
set_option maxRecDepth 100000 in
theorem mw_488 : Cond.instanceMethod yX4_copyFrom ∈ gw_all := List.mem_filter.mpr ⟨mt_2 (List.mem_of_getElem? (i := 197) rfl), rfl⟩
set_option maxRecDepth 100000 in
theorem mw_489 : Cond.selects RX4 yX4_copyFrom yX4_copyFrom ∈ gw_all := List.mem_filter.mpr ⟨mt_2 (List.mem_of_getElem? (i := 198) rfl), rfl⟩
set_option maxRecDepth 100000 in
theorem mw_490 : Cond.code yX4_copyFrom cX4_copyFrom 2 none ∈ gw_all := List.mem_filter.mpr ⟨mt_2 (List.mem_of_getElem? (i := 199) rfl), rfl⟩
set_option maxRecDepth 100000 in
theorem mw_491 : Cond.methodLink RX4 37 arraycopyName ∈ gw_all := List.mem_filter.mpr ⟨mt_2 (List.mem_of_getElem? (i := 200) rfl), rfl⟩
set_option maxRecDepth 100000 in
theorem mw_492 : Cond.methodLink RX1 91 yX0_copyFrom ∈ gw_all := List.mem_filter.mpr ⟨mt_2 (List.mem_of_getElem? (i := 201) rfl), rfl⟩
set_option maxRecDepth 100000 in
theorem mw_493 : Cond.instanceMethod yX0_copyFrom ∈ gw_all := List.mem_filter.mpr ⟨mt_2 (List.mem_of_getElem? (i := 202) rfl), rfl⟩
set_option maxRecDepth 100000 in
theorem mw_494 : Cond.selects RX0 yX0_copyFrom yX0_copyFrom ∈ gw_all := List.mem_filter.mpr ⟨mt_2 (List.mem_of_getElem? (i := 203) rfl), rfl⟩
set_option maxRecDepth 100000 in
theorem mw_495 : Cond.code yX0_copyFrom cX0_copyFrom 2 none ∈ gw_all := List.mem_filter.mpr ⟨mt_2 (List.mem_of_getElem? (i := 204) rfl), rfl⟩
set_option maxRecDepth 100000 in
theorem mw_496 : Cond.methodLink RX6 388 yJ9_min_7cf53 ∈ gw_all := List.mem_filter.mpr ⟨mt_2 (List.mem_of_getElem? (i := 205) rfl), rfl⟩
set_option maxRecDepth 100000 in
theorem mw_497 : Cond.static yJ9_min_7cf53 ∈ gw_all := List.mem_filter.mpr ⟨mt_2 (List.mem_of_getElem? (i := 206) rfl), rfl⟩
set_option maxRecDepth 100000 in
theorem mw_498 : Cond.code yJ9_min_7cf53 cJ9_min_7cf53 2 (some .int) ∈ gw_all := List.mem_filter.mpr ⟨mt_2 (List.mem_of_getElem? (i := 207) rfl), rfl⟩
set_option maxRecDepth 100000 in
theorem mw_499 : Cond.methodLink RX6 72 yX6_accept ∈ gw_all := List.mem_filter.mpr ⟨mt_2 (List.mem_of_getElem? (i := 208) rfl), rfl⟩
set_option maxRecDepth 100000 in
theorem mw_501 : Cond.instanceMethod yX6_accept ∈ gw_all := List.mem_filter.mpr ⟨mt_2 (List.mem_of_getElem? (i := 210) rfl), rfl⟩
set_option maxRecDepth 100000 in
theorem mw_502 : Cond.code yX6_accept cX6_accept 2 (some .int) ∈ gw_all := List.mem_filter.mpr ⟨mt_2 (List.mem_of_getElem? (i := 211) rfl), rfl⟩
set_option maxRecDepth 100000 in
theorem mw_503 : Cond.methodLink RL 18 yX6_net ∈ gw_all := List.mem_filter.mpr ⟨mt_2 (List.mem_of_getElem? (i := 212) rfl), rfl⟩
set_option maxRecDepth 100000 in
theorem mw_504 : Cond.instanceMethod yX6_net ∈ gw_all := List.mem_filter.mpr ⟨mt_2 (List.mem_of_getElem? (i := 213) rfl), rfl⟩
set_option maxRecDepth 100000 in
theorem mw_505 : Cond.selects RX6 yX6_net yX6_net ∈ gw_all := List.mem_filter.mpr ⟨mt_2 (List.mem_of_getElem? (i := 214) rfl), rfl⟩
set_option maxRecDepth 100000 in
theorem mw_506 : Cond.code yX6_net cX6_net 4 (some .int) ∈ gw_all := List.mem_filter.mpr ⟨mt_2 (List.mem_of_getElem? (i := 215) rfl), rfl⟩
set_option maxRecDepth 100000 in
theorem mw_507 : Cond.constant RX6 75 65535 ∈ gw_all := List.mem_filter.mpr ⟨mt_2 (List.mem_of_getElem? (i := 216) rfl), rfl⟩
set_option maxRecDepth 100000 in
theorem mw_508 : Cond.methodLink RX6 76 yX5_hasRadio ∈ gw_all := List.mem_filter.mpr ⟨mt_2 (List.mem_of_getElem? (i := 217) rfl), rfl⟩
set_option maxRecDepth 100000 in
theorem mw_509 : Cond.instanceMethod yX5_hasRadio ∈ gw_all := List.mem_filter.mpr ⟨mt_2 (List.mem_of_getElem? (i := 218) rfl), rfl⟩
set_option maxRecDepth 100000 in
theorem mw_510 : Cond.selects RX5 yX5_hasRadio yX5_hasRadio ∈ gw_all := List.mem_filter.mpr ⟨mt_2 (List.mem_of_getElem? (i := 219) rfl), rfl⟩
set_option maxRecDepth 100000 in
theorem mw_511 : Cond.code yX5_hasRadio cX5_hasRadio 2 (some .boolean) ∈ gw_all := List.mem_filter.mpr ⟨mt_2 (List.mem_of_getElem? (i := 220) rfl), rfl⟩
set_option maxRecDepth 100000 in
theorem mw_512 : Cond.methodLink RL 23 yX6_join ∈ gw_all := List.mem_filter.mpr ⟨mt_2 (List.mem_of_getElem? (i := 221) rfl), rfl⟩
set_option maxRecDepth 100000 in
theorem mw_513 : Cond.instanceMethod yX6_join ∈ gw_all := List.mem_filter.mpr ⟨mt_2 (List.mem_of_getElem? (i := 222) rfl), rfl⟩
set_option maxRecDepth 100000 in
theorem mw_514 : Cond.selects RX6 yX6_join yX6_join ∈ gw_all := List.mem_filter.mpr ⟨mt_2 (List.mem_of_getElem? (i := 223) rfl), rfl⟩
set_option maxRecDepth 100000 in
theorem mw_515 : Cond.code yX6_join cX6_join 4 (some .int) ∈ gw_all := List.mem_filter.mpr ⟨mt_2 (List.mem_of_getElem? (i := 224) rfl), rfl⟩
set_option maxRecDepth 100000 in
theorem mw_516 : Cond.methodLink RX6 95 yX5_netAt ∈ gw_all := List.mem_filter.mpr ⟨mt_2 (List.mem_of_getElem? (i := 225) rfl), rfl⟩
set_option maxRecDepth 100000 in
theorem mw_517 : Cond.instanceMethod yX5_netAt ∈ gw_all := List.mem_filter.mpr ⟨mt_2 (List.mem_of_getElem? (i := 226) rfl), rfl⟩
set_option maxRecDepth 100000 in
theorem mw_518 : Cond.selects RX5 yX5_netAt yX5_netAt ∈ gw_all := List.mem_filter.mpr ⟨mt_2 (List.mem_of_getElem? (i := 227) rfl), rfl⟩
set_option maxRecDepth 100000 in
theorem mw_519 : Cond.code yX5_netAt cX5_netAt 2 (some (.object "HopNet$Net")) ∈ gw_all := List.mem_filter.mpr ⟨mt_2 (List.mem_of_getElem? (i := 228) rfl), rfl⟩
set_option maxRecDepth 100000 in
theorem mw_520 : Cond.methodLink RX6 99 yX2_holds ∈ gw_all := List.mem_filter.mpr ⟨mt_2 (List.mem_of_getElem? (i := 229) rfl), rfl⟩
set_option maxRecDepth 100000 in
theorem mw_521 : Cond.instanceMethod yX2_holds ∈ gw_all := List.mem_filter.mpr ⟨mt_2 (List.mem_of_getElem? (i := 230) rfl), rfl⟩
set_option maxRecDepth 100000 in
theorem mw_522 : Cond.selects RX2 yX2_holds yX2_holds ∈ gw_all := List.mem_filter.mpr ⟨mt_2 (List.mem_of_getElem? (i := 231) rfl), rfl⟩
set_option maxRecDepth 100000 in
theorem mw_523 : Cond.code yX2_holds cX2_holds 3 (some .boolean) ∈ gw_all := List.mem_filter.mpr ⟨mt_2 (List.mem_of_getElem? (i := 232) rfl), rfl⟩
set_option maxRecDepth 100000 in
theorem mw_524 : Cond.methodLink RX6 105 yX2_addMember ∈ gw_all := List.mem_filter.mpr ⟨mt_2 (List.mem_of_getElem? (i := 233) rfl), rfl⟩
set_option maxRecDepth 100000 in
theorem mw_525 : Cond.instanceMethod yX2_addMember ∈ gw_all := List.mem_filter.mpr ⟨mt_2 (List.mem_of_getElem? (i := 234) rfl), rfl⟩
set_option maxRecDepth 100000 in
theorem mw_526 : Cond.selects RX2 yX2_addMember yX2_addMember ∈ gw_all := List.mem_filter.mpr ⟨mt_2 (List.mem_of_getElem? (i := 235) rfl), rfl⟩
set_option maxRecDepth 100000 in
theorem mw_527 : Cond.code yX2_addMember cX2_addMember 3 none ∈ gw_all := List.mem_filter.mpr ⟨mt_2 (List.mem_of_getElem? (i := 236) rfl), rfl⟩
set_option maxRecDepth 100000 in
theorem mw_528 : Cond.methodLink RX2 99 yX1_begin ∈ gw_all := List.mem_filter.mpr ⟨mt_2 (List.mem_of_getElem? (i := 237) rfl), rfl⟩
set_option maxRecDepth 100000 in
theorem mw_529 : Cond.instanceMethod yX1_begin ∈ gw_all := List.mem_filter.mpr ⟨mt_2 (List.mem_of_getElem? (i := 238) rfl), rfl⟩
set_option maxRecDepth 100000 in
theorem mw_530 : Cond.selects RX1 yX1_begin yX1_begin ∈ gw_all := List.mem_filter.mpr ⟨mt_2 (List.mem_of_getElem? (i := 239) rfl), rfl⟩
set_option maxRecDepth 100000 in
theorem mw_531 : Cond.code yX1_begin cX1_begin 4 none ∈ gw_all := List.mem_filter.mpr ⟨mt_3 (List.mem_of_getElem? (i := 0) rfl), rfl⟩
set_option maxRecDepth 100000 in
theorem mw_532 : Cond.methodLink RX1 45 yX4_begin ∈ gw_all := List.mem_filter.mpr ⟨mt_3 (List.mem_of_getElem? (i := 1) rfl), rfl⟩
set_option maxRecDepth 100000 in
theorem mw_533 : Cond.instanceMethod yX4_begin ∈ gw_all := List.mem_filter.mpr ⟨mt_3 (List.mem_of_getElem? (i := 2) rfl), rfl⟩
set_option maxRecDepth 100000 in
theorem mw_534 : Cond.selects RX4 yX4_begin yX4_begin ∈ gw_all := List.mem_filter.mpr ⟨mt_3 (List.mem_of_getElem? (i := 3) rfl), rfl⟩
set_option maxRecDepth 100000 in
theorem mw_535 : Cond.code yX4_begin cX4_begin 1 none ∈ gw_all := List.mem_filter.mpr ⟨mt_3 (List.mem_of_getElem? (i := 4) rfl), rfl⟩
set_option maxRecDepth 100000 in
theorem mw_536 : Cond.methodLink RX1 51 yX0_set ∈ gw_all := List.mem_filter.mpr ⟨mt_3 (List.mem_of_getElem? (i := 5) rfl), rfl⟩
set_option maxRecDepth 100000 in
theorem mw_537 : Cond.instanceMethod yX0_set ∈ gw_all := List.mem_filter.mpr ⟨mt_3 (List.mem_of_getElem? (i := 6) rfl), rfl⟩
set_option maxRecDepth 100000 in
theorem mw_538 : Cond.selects RX0 yX0_set yX0_set ∈ gw_all := List.mem_filter.mpr ⟨mt_3 (List.mem_of_getElem? (i := 7) rfl), rfl⟩
set_option maxRecDepth 100000 in
theorem mw_539 : Cond.code yX0_set cX0_set 4 none ∈ gw_all := List.mem_filter.mpr ⟨mt_3 (List.mem_of_getElem? (i := 8) rfl), rfl⟩
set_option maxRecDepth 100000 in
theorem mw_540 : Cond.methodLink RL 28 yX6_leave ∈ gw_all := List.mem_filter.mpr ⟨mt_3 (List.mem_of_getElem? (i := 9) rfl), rfl⟩
set_option maxRecDepth 100000 in
theorem mw_541 : Cond.instanceMethod yX6_leave ∈ gw_all := List.mem_filter.mpr ⟨mt_3 (List.mem_of_getElem? (i := 10) rfl), rfl⟩
set_option maxRecDepth 100000 in
theorem mw_542 : Cond.selects RX6 yX6_leave yX6_leave ∈ gw_all := List.mem_filter.mpr ⟨mt_3 (List.mem_of_getElem? (i := 11) rfl), rfl⟩
set_option maxRecDepth 100000 in
theorem mw_543 : Cond.code yX6_leave cX6_leave 4 (some .int) ∈ gw_all := List.mem_filter.mpr ⟨mt_3 (List.mem_of_getElem? (i := 12) rfl), rfl⟩
set_option maxRecDepth 100000 in
theorem mw_544 : Cond.methodLink RX6 109 yX2_linkAt ∈ gw_all := List.mem_filter.mpr ⟨mt_3 (List.mem_of_getElem? (i := 13) rfl), rfl⟩
set_option maxRecDepth 100000 in
theorem mw_545 : Cond.instanceMethod yX2_linkAt ∈ gw_all := List.mem_filter.mpr ⟨mt_3 (List.mem_of_getElem? (i := 14) rfl), rfl⟩
set_option maxRecDepth 100000 in
theorem mw_546 : Cond.selects RX2 yX2_linkAt yX2_linkAt ∈ gw_all := List.mem_filter.mpr ⟨mt_3 (List.mem_of_getElem? (i := 15) rfl), rfl⟩
set_option maxRecDepth 100000 in
theorem mw_547 : Cond.code yX2_linkAt cX2_linkAt 2 (some (.object "HopNet$Link")) ∈ gw_all := List.mem_filter.mpr ⟨mt_3 (List.mem_of_getElem? (i := 16) rfl), rfl⟩
set_option maxRecDepth 100000 in
theorem mw_548 : Cond.methodLink RX6 113 yX2_removeMember ∈ gw_all := List.mem_filter.mpr ⟨mt_3 (List.mem_of_getElem? (i := 17) rfl), rfl⟩
set_option maxRecDepth 100000 in
theorem mw_549 : Cond.instanceMethod yX2_removeMember ∈ gw_all := List.mem_filter.mpr ⟨mt_3 (List.mem_of_getElem? (i := 18) rfl), rfl⟩
set_option maxRecDepth 100000 in
theorem mw_550 : Cond.selects RX2 yX2_removeMember yX2_removeMember ∈ gw_all := List.mem_filter.mpr ⟨mt_3 (List.mem_of_getElem? (i := 19) rfl), rfl⟩
set_option maxRecDepth 100000 in
theorem mw_551 : Cond.code yX2_removeMember cX2_removeMember 4 none ∈ gw_all := List.mem_filter.mpr ⟨mt_3 (List.mem_of_getElem? (i := 20) rfl), rfl⟩
set_option maxRecDepth 100000 in
theorem mw_552 : Cond.methodLink RX2 103 yX2_linkAt ∈ gw_all := List.mem_filter.mpr ⟨mt_3 (List.mem_of_getElem? (i := 21) rfl), rfl⟩
set_option maxRecDepth 100000 in
theorem mw_553 : Cond.methodLink RL 32 yX6_noise ∈ gw_all := List.mem_filter.mpr ⟨mt_3 (List.mem_of_getElem? (i := 22) rfl), rfl⟩
set_option maxRecDepth 100000 in
theorem mw_554 : Cond.instanceMethod yX6_noise ∈ gw_all := List.mem_filter.mpr ⟨mt_3 (List.mem_of_getElem? (i := 23) rfl), rfl⟩
set_option maxRecDepth 100000 in
theorem mw_555 : Cond.selects RX6 yX6_noise yX6_noise ∈ gw_all := List.mem_filter.mpr ⟨mt_3 (List.mem_of_getElem? (i := 24) rfl), rfl⟩
set_option maxRecDepth 100000 in
theorem mw_556 : Cond.code yX6_noise cX6_noise 4 (some .int) ∈ gw_all := List.mem_filter.mpr ⟨mt_3 (List.mem_of_getElem? (i := 25) rfl), rfl⟩
set_option maxRecDepth 100000 in
theorem mw_557 : Cond.methodLink RL 36 yX6_terms ∈ gw_all := List.mem_filter.mpr ⟨mt_3 (List.mem_of_getElem? (i := 26) rfl), rfl⟩
set_option maxRecDepth 100000 in
theorem mw_558 : Cond.instanceMethod yX6_terms ∈ gw_all := List.mem_filter.mpr ⟨mt_3 (List.mem_of_getElem? (i := 27) rfl), rfl⟩
set_option maxRecDepth 100000 in
theorem mw_559 : Cond.selects RX6 yX6_terms yX6_terms ∈ gw_all := List.mem_filter.mpr ⟨mt_3 (List.mem_of_getElem? (i := 28) rfl), rfl⟩
set_option maxRecDepth 100000 in
theorem mw_560 : Cond.code yX6_terms cX6_terms 4 (some .int) ∈ gw_all := List.mem_filter.mpr ⟨mt_3 (List.mem_of_getElem? (i := 29) rfl), rfl⟩
set_option maxRecDepth 100000 in
theorem mw_561 : Cond.methodLink RX6 119 yX6_isTerm ∈ gw_all := List.mem_filter.mpr ⟨mt_3 (List.mem_of_getElem? (i := 30) rfl), rfl⟩
set_option maxRecDepth 100000 in
theorem mw_562 : Cond.static yX6_isTerm ∈ gw_all := List.mem_filter.mpr ⟨mt_3 (List.mem_of_getElem? (i := 31) rfl), rfl⟩
set_option maxRecDepth 100000 in
theorem mw_563 : Cond.code yX6_isTerm cX6_isTerm 2 (some .boolean) ∈ gw_all := List.mem_filter.mpr ⟨mt_3 (List.mem_of_getElem? (i := 32) rfl), rfl⟩
set_option maxRecDepth 100000 in
theorem mw_564 : Cond.constant RX6 401 1000000 ∈ gw_all := List.mem_filter.mpr ⟨mt_3 (List.mem_of_getElem? (i := 33) rfl), rfl⟩
set_option maxRecDepth 100000 in
theorem mw_565 : Cond.methodLink RX6 156 yX6_isEvenWithin ∈ gw_all := List.mem_filter.mpr ⟨mt_3 (List.mem_of_getElem? (i := 34) rfl), rfl⟩
set_option maxRecDepth 100000 in
theorem mw_566 : Cond.static yX6_isEvenWithin ∈ gw_all := List.mem_filter.mpr ⟨mt_3 (List.mem_of_getElem? (i := 35) rfl), rfl⟩
set_option maxRecDepth 100000 in
theorem mw_567 : Cond.code yX6_isEvenWithin cX6_isEvenWithin 3 (some .boolean) ∈ gw_all := List.mem_filter.mpr ⟨mt_3 (List.mem_of_getElem? (i := 36) rfl), rfl⟩
set_option maxRecDepth 100000 in
theorem mw_568 : Cond.methodLink RL 40 yX6_put ∈ gw_all := List.mem_filter.mpr ⟨mt_3 (List.mem_of_getElem? (i := 37) rfl), rfl⟩
set_option maxRecDepth 100000 in
theorem mw_569 : Cond.instanceMethod yX6_put ∈ gw_all := List.mem_filter.mpr ⟨mt_3 (List.mem_of_getElem? (i := 38) rfl), rfl⟩
set_option maxRecDepth 100000 in
theorem mw_570 : Cond.selects RX6 yX6_put yX6_put ∈ gw_all := List.mem_filter.mpr ⟨mt_3 (List.mem_of_getElem? (i := 39) rfl), rfl⟩
set_option maxRecDepth 100000 in
theorem mw_571 : Cond.code yX6_put cX6_put 7 (some .int) ∈ gw_all := List.mem_filter.mpr ⟨mt_3 (List.mem_of_getElem? (i := 40) rfl), rfl⟩
set_option maxRecDepth 100000 in
theorem mw_572 : Cond.methodLink RX6 132 yX5_linkAt ∈ gw_all := List.mem_filter.mpr ⟨mt_3 (List.mem_of_getElem? (i := 41) rfl), rfl⟩
set_option maxRecDepth 100000 in
theorem mw_573 : Cond.instanceMethod yX5_linkAt ∈ gw_all := List.mem_filter.mpr ⟨mt_3 (List.mem_of_getElem? (i := 42) rfl), rfl⟩
set_option maxRecDepth 100000 in
theorem mw_574 : Cond.selects RX5 yX5_linkAt yX5_linkAt ∈ gw_all := List.mem_filter.mpr ⟨mt_3 (List.mem_of_getElem? (i := 43) rfl), rfl⟩
set_option maxRecDepth 100000 in
theorem mw_575 : Cond.code yX5_linkAt cX5_linkAt 4 (some (.object "HopNet$Link")) ∈ gw_all := List.mem_filter.mpr ⟨mt_3 (List.mem_of_getElem? (i := 44) rfl), rfl⟩
set_option maxRecDepth 100000 in
theorem mw_576 : Cond.methodLink RX5 60 yX5_netAt ∈ gw_all := List.mem_filter.mpr ⟨mt_3 (List.mem_of_getElem? (i := 45) rfl), rfl⟩
set_option maxRecDepth 100000 in
theorem mw_577 : Cond.methodLink RX5 64 yX2_linkAt ∈ gw_all := List.mem_filter.mpr ⟨mt_3 (List.mem_of_getElem? (i := 46) rfl), rfl⟩
set_option maxRecDepth 100000 in
theorem mw_578 : Cond.methodLink RX6 144 yX4_isFull ∈ gw_all := List.mem_filter.mpr ⟨mt_3 (List.mem_of_getElem? (i := 47) rfl), rfl⟩
set_option maxRecDepth 100000 in
theorem mw_579 : Cond.instanceMethod yX4_isFull ∈ gw_all := List.mem_filter.mpr ⟨mt_3 (List.mem_of_getElem? (i := 48) rfl), rfl⟩
set_option maxRecDepth 100000 in
theorem mw_580 : Cond.selects RX4 yX4_isFull yX4_isFull ∈ gw_all := List.mem_filter.mpr ⟨mt_3 (List.mem_of_getElem? (i := 49) rfl), rfl⟩
set_option maxRecDepth 100000 in
theorem mw_581 : Cond.code yX4_isFull cX4_isFull 1 (some .boolean) ∈ gw_all := List.mem_filter.mpr ⟨mt_3 (List.mem_of_getElem? (i := 50) rfl), rfl⟩
set_option maxRecDepth 100000 in
theorem mw_582 : Cond.methodLink RX6 150 yX4_append ∈ gw_all := List.mem_filter.mpr ⟨mt_3 (List.mem_of_getElem? (i := 51) rfl), rfl⟩
set_option maxRecDepth 100000 in
theorem mw_583 : Cond.instanceMethod yX4_append ∈ gw_all := List.mem_filter.mpr ⟨mt_3 (List.mem_of_getElem? (i := 52) rfl), rfl⟩
set_option maxRecDepth 100000 in
theorem mw_584 : Cond.selects RX4 yX4_append yX4_append ∈ gw_all := List.mem_filter.mpr ⟨mt_3 (List.mem_of_getElem? (i := 53) rfl), rfl⟩
set_option maxRecDepth 100000 in
theorem mw_585 : Cond.code yX4_append cX4_append 3 none ∈ gw_all := List.mem_filter.mpr ⟨mt_3 (List.mem_of_getElem? (i := 54) rfl), rfl⟩
set_option maxRecDepth 100000 in
theorem mw_586 : Cond.methodLink RL 45 yX6_reserve ∈ gw_all := List.mem_filter.mpr ⟨mt_3 (List.mem_of_getElem? (i := 55) rfl), rfl⟩
set_option maxRecDepth 100000 in
theorem mw_587 : Cond.instanceMethod yX6_reserve ∈ gw_all := List.mem_filter.mpr ⟨mt_3 (List.mem_of_getElem? (i := 56) rfl), rfl⟩
set_option maxRecDepth 100000 in
theorem mw_588 : Cond.selects RX6 yX6_reserve yX6_reserve ∈ gw_all := List.mem_filter.mpr ⟨mt_3 (List.mem_of_getElem? (i := 57) rfl), rfl⟩
set_option maxRecDepth 100000 in
theorem mw_589 : Cond.code yX6_reserve cX6_reserve 9 (some .int) ∈ gw_all := List.mem_filter.mpr ⟨mt_3 (List.mem_of_getElem? (i := 58) rfl), rfl⟩
set_option maxRecDepth 100000 in
theorem mw_590 : Cond.methodLink RX6 168 yX0_set ∈ gw_all := List.mem_filter.mpr ⟨mt_3 (List.mem_of_getElem? (i := 59) rfl), rfl⟩
set_option maxRecDepth 100000 in
theorem mw_591 : Cond.methodLink RL 50 yX6_sniff ∈ gw_all := List.mem_filter.mpr ⟨mt_3 (List.mem_of_getElem? (i := 60) rfl), rfl⟩
set_option maxRecDepth 100000 in
theorem mw_592 : Cond.instanceMethod yX6_sniff ∈ gw_all := List.mem_filter.mpr ⟨mt_3 (List.mem_of_getElem? (i := 61) rfl), rfl⟩
set_option maxRecDepth 100000 in
theorem mw_593 : Cond.selects RX6 yX6_sniff yX6_sniff ∈ gw_all := List.mem_filter.mpr ⟨mt_3 (List.mem_of_getElem? (i := 62) rfl), rfl⟩
set_option maxRecDepth 100000 in
theorem mw_594 : Cond.code yX6_sniff cX6_sniff 8 (some .int) ∈ gw_all := List.mem_filter.mpr ⟨mt_3 (List.mem_of_getElem? (i := 63) rfl), rfl⟩
set_option maxRecDepth 100000 in
theorem mw_595 : Cond.methodLink RL 54 yX6_weigh ∈ gw_all := List.mem_filter.mpr ⟨mt_3 (List.mem_of_getElem? (i := 64) rfl), rfl⟩
set_option maxRecDepth 100000 in
theorem mw_596 : Cond.instanceMethod yX6_weigh ∈ gw_all := List.mem_filter.mpr ⟨mt_3 (List.mem_of_getElem? (i := 65) rfl), rfl⟩
set_option maxRecDepth 100000 in
theorem mw_597 : Cond.selects RX6 yX6_weigh yX6_weigh ∈ gw_all := List.mem_filter.mpr ⟨mt_3 (List.mem_of_getElem? (i := 66) rfl), rfl⟩
set_option maxRecDepth 100000 in
theorem mw_598 : Cond.code yX6_weigh cX6_weigh 6 (some .int) ∈ gw_all := List.mem_filter.mpr ⟨mt_3 (List.mem_of_getElem? (i := 67) rfl), rfl⟩
set_option maxRecDepth 100000 in
theorem mw_599 : Cond.methodLink RL 58 yX6_cast ∈ gw_all := List.mem_filter.mpr ⟨mt_3 (List.mem_of_getElem? (i := 68) rfl), rfl⟩
set_option maxRecDepth 100000 in
theorem mw_600 : Cond.instanceMethod yX6_cast ∈ gw_all := List.mem_filter.mpr ⟨mt_3 (List.mem_of_getElem? (i := 69) rfl), rfl⟩
set_option maxRecDepth 100000 in
theorem mw_601 : Cond.selects RX6 yX6_cast yX6_cast ∈ gw_all := List.mem_filter.mpr ⟨mt_3 (List.mem_of_getElem? (i := 70) rfl), rfl⟩
set_option maxRecDepth 100000 in
theorem mw_602 : Cond.code yX6_cast cX6_cast 4 (some .int) ∈ gw_all := List.mem_filter.mpr ⟨mt_3 (List.mem_of_getElem? (i := 71) rfl), rfl⟩
set_option maxRecDepth 100000 in
theorem mw_603 : Cond.methodLink RL 62 yX6_map ∈ gw_all := List.mem_filter.mpr ⟨mt_3 (List.mem_of_getElem? (i := 72) rfl), rfl⟩
set_option maxRecDepth 100000 in
theorem mw_604 : Cond.instanceMethod yX6_map ∈ gw_all := List.mem_filter.mpr ⟨mt_3 (List.mem_of_getElem? (i := 73) rfl), rfl⟩
set_option maxRecDepth 100000 in
theorem mw_605 : Cond.selects RX6 yX6_map yX6_map ∈ gw_all := List.mem_filter.mpr ⟨mt_3 (List.mem_of_getElem? (i := 74) rfl), rfl⟩
set_option maxRecDepth 100000 in
theorem mw_606 : Cond.code yX6_map cX6_map 5 (some .int) ∈ gw_all := List.mem_filter.mpr ⟨mt_3 (List.mem_of_getElem? (i := 75) rfl), rfl⟩
set_option maxRecDepth 100000 in
theorem mw_607 : Cond.methodLink RX6 187 yX6_isMap ∈ gw_all := List.mem_filter.mpr ⟨mt_3 (List.mem_of_getElem? (i := 76) rfl), rfl⟩
set_option maxRecDepth 100000 in
theorem mw_608 : Cond.static yX6_isMap ∈ gw_all := List.mem_filter.mpr ⟨mt_3 (List.mem_of_getElem? (i := 77) rfl), rfl⟩
set_option maxRecDepth 100000 in
theorem mw_609 : Cond.code yX6_isMap cX6_isMap 1 (some .boolean) ∈ gw_all := List.mem_filter.mpr ⟨mt_3 (List.mem_of_getElem? (i := 78) rfl), rfl⟩
set_option maxRecDepth 100000 in
theorem mw_610 : Cond.constant RX6 402 (-8388608) ∈ gw_all := List.mem_filter.mpr ⟨mt_3 (List.mem_of_getElem? (i := 79) rfl), rfl⟩
set_option maxRecDepth 100000 in
theorem mw_611 : Cond.methodLink RX6 403 yJ6_bitCount_0f7a4 ∈ gw_all := List.mem_filter.mpr ⟨mt_3 (List.mem_of_getElem? (i := 80) rfl), rfl⟩
set_option maxRecDepth 100000 in
theorem mw_612 : Cond.static yJ6_bitCount_0f7a4 ∈ gw_all := List.mem_filter.mpr ⟨mt_3 (List.mem_of_getElem? (i := 81) rfl), rfl⟩
set_option maxRecDepth 100000 in
theorem mw_613 : Cond.code yJ6_bitCount_0f7a4 cJ6_bitCount_0f7a4 1 (some .int) ∈ gw_all := List.mem_filter.mpr ⟨mt_3 (List.mem_of_getElem? (i := 82) rfl), rfl⟩
set_option maxRecDepth 100000 in
theorem mw_614 : Cond.constant RJ6 265 1431655765 ∈ gw_all := List.mem_filter.mpr ⟨mt_3 (List.mem_of_getElem? (i := 83) rfl), rfl⟩
set_option maxRecDepth 100000 in
theorem mw_615 : Cond.constant RJ6 266 858993459 ∈ gw_all := List.mem_filter.mpr ⟨mt_3 (List.mem_of_getElem? (i := 84) rfl), rfl⟩
set_option maxRecDepth 100000 in
theorem mw_616 : Cond.constant RJ6 267 252645135 ∈ gw_all := List.mem_filter.mpr ⟨mt_3 (List.mem_of_getElem? (i := 85) rfl), rfl⟩
set_option maxRecDepth 100000 in
theorem mw_617 : Cond.methodLink RX6 194 yX3_hasNext ∈ gw_all := List.mem_filter.mpr ⟨mt_3 (List.mem_of_getElem? (i := 86) rfl), rfl⟩
set_option maxRecDepth 100000 in
theorem mw_618 : Cond.instanceMethod yX3_hasNext ∈ gw_all := List.mem_filter.mpr ⟨mt_3 (List.mem_of_getElem? (i := 87) rfl), rfl⟩
set_option maxRecDepth 100000 in
theorem mw_619 : Cond.selects RX3 yX3_hasNext yX3_hasNext ∈ gw_all := List.mem_filter.mpr ⟨mt_3 (List.mem_of_getElem? (i := 88) rfl), rfl⟩
set_option maxRecDepth 100000 in
theorem mw_620 : Cond.code yX3_hasNext cX3_hasNext 1 (some .boolean) ∈ gw_all := List.mem_filter.mpr ⟨mt_3 (List.mem_of_getElem? (i := 89) rfl), rfl⟩
set_option maxRecDepth 100000 in
theorem mw_621 : Cond.methodLink RX6 199 yX6_tellMap ∈ gw_all := List.mem_filter.mpr ⟨mt_3 (List.mem_of_getElem? (i := 90) rfl), rfl⟩
set_option maxRecDepth 100000 in
theorem mw_623 : Cond.instanceMethod yX6_tellMap ∈ gw_all := List.mem_filter.mpr ⟨mt_3 (List.mem_of_getElem? (i := 92) rfl), rfl⟩
set_option maxRecDepth 100000 in
theorem mw_624 : Cond.code yX6_tellMap cX6_tellMap 4 (some .int) ∈ gw_all := List.mem_filter.mpr ⟨mt_3 (List.mem_of_getElem? (i := 93) rfl), rfl⟩
set_option maxRecDepth 100000 in
theorem mw_625 : Cond.methodLink RX6 393 yX2_tellMap ∈ gw_all := List.mem_filter.mpr ⟨mt_3 (List.mem_of_getElem? (i := 94) rfl), rfl⟩
set_option maxRecDepth 100000 in
theorem mw_626 : Cond.instanceMethod yX2_tellMap ∈ gw_all := List.mem_filter.mpr ⟨mt_3 (List.mem_of_getElem? (i := 95) rfl), rfl⟩
set_option maxRecDepth 100000 in
theorem mw_627 : Cond.selects RX2 yX2_tellMap yX2_tellMap ∈ gw_all := List.mem_filter.mpr ⟨mt_3 (List.mem_of_getElem? (i := 96) rfl), rfl⟩
set_option maxRecDepth 100000 in
theorem mw_628 : Cond.code yX2_tellMap cX2_tellMap 4 none ∈ gw_all := List.mem_filter.mpr ⟨mt_3 (List.mem_of_getElem? (i := 97) rfl), rfl⟩
set_option maxRecDepth 100000 in
theorem mw_629 : Cond.methodLink RX2 107 yX3_expect ∈ gw_all := List.mem_filter.mpr ⟨mt_3 (List.mem_of_getElem? (i := 98) rfl), rfl⟩
set_option maxRecDepth 100000 in
theorem mw_630 : Cond.instanceMethod yX3_expect ∈ gw_all := List.mem_filter.mpr ⟨mt_3 (List.mem_of_getElem? (i := 99) rfl), rfl⟩
set_option maxRecDepth 100000 in
theorem mw_631 : Cond.selects RX3 yX3_expect yX3_expect ∈ gw_all := List.mem_filter.mpr ⟨mt_3 (List.mem_of_getElem? (i := 100) rfl), rfl⟩
set_option maxRecDepth 100000 in
theorem mw_632 : Cond.code yX3_expect cX3_expect 3 none ∈ gw_all := List.mem_filter.mpr ⟨mt_3 (List.mem_of_getElem? (i := 101) rfl), rfl⟩
set_option maxRecDepth 100000 in
theorem mw_633 : Cond.methodLink RL 66 yX6_adapt ∈ gw_all := List.mem_filter.mpr ⟨mt_3 (List.mem_of_getElem? (i := 102) rfl), rfl⟩
set_option maxRecDepth 100000 in
theorem mw_634 : Cond.instanceMethod yX6_adapt ∈ gw_all := List.mem_filter.mpr ⟨mt_3 (List.mem_of_getElem? (i := 103) rfl), rfl⟩
set_option maxRecDepth 100000 in
theorem mw_635 : Cond.selects RX6 yX6_adapt yX6_adapt ∈ gw_all := List.mem_filter.mpr ⟨mt_3 (List.mem_of_getElem? (i := 104) rfl), rfl⟩
set_option maxRecDepth 100000 in
theorem mw_636 : Cond.code yX6_adapt cX6_adapt 7 (some .int) ∈ gw_all := List.mem_filter.mpr ⟨mt_3 (List.mem_of_getElem? (i := 105) rfl), rfl⟩
set_option maxRecDepth 100000 in
theorem mw_637 : Cond.methodLink RX6 203 yX2_badChannels ∈ gw_all := List.mem_filter.mpr ⟨mt_3 (List.mem_of_getElem? (i := 106) rfl), rfl⟩
set_option maxRecDepth 100000 in
theorem mw_638 : Cond.instanceMethod yX2_badChannels ∈ gw_all := List.mem_filter.mpr ⟨mt_3 (List.mem_of_getElem? (i := 107) rfl), rfl⟩
set_option maxRecDepth 100000 in
theorem mw_639 : Cond.selects RX2 yX2_badChannels yX2_badChannels ∈ gw_all := List.mem_filter.mpr ⟨mt_3 (List.mem_of_getElem? (i := 108) rfl), rfl⟩
set_option maxRecDepth 100000 in
theorem mw_640 : Cond.code yX2_badChannels cX2_badChannels 5 (some .int) ∈ gw_all := List.mem_filter.mpr ⟨mt_3 (List.mem_of_getElem? (i := 109) rfl), rfl⟩
set_option maxRecDepth 100000 in
theorem mw_641 : Cond.methodLink RX6 209 yX2_mostAnswered ∈ gw_all := List.mem_filter.mpr ⟨mt_3 (List.mem_of_getElem? (i := 110) rfl), rfl⟩
set_option maxRecDepth 100000 in
theorem mw_642 : Cond.instanceMethod yX2_mostAnswered ∈ gw_all := List.mem_filter.mpr ⟨mt_3 (List.mem_of_getElem? (i := 111) rfl), rfl⟩
set_option maxRecDepth 100000 in
theorem mw_643 : Cond.selects RX2 yX2_mostAnswered yX2_mostAnswered ∈ gw_all := List.mem_filter.mpr ⟨mt_3 (List.mem_of_getElem? (i := 112) rfl), rfl⟩
set_option maxRecDepth 100000 in
theorem mw_644 : Cond.code yX2_mostAnswered cX2_mostAnswered 6 (some .int) ∈ gw_all := List.mem_filter.mpr ⟨mt_3 (List.mem_of_getElem? (i := 113) rfl), rfl⟩
set_option maxRecDepth 100000 in
theorem mw_645 : Cond.methodLink RL 70 yX6_run ∈ gw_all := List.mem_filter.mpr ⟨mt_3 (List.mem_of_getElem? (i := 114) rfl), rfl⟩
set_option maxRecDepth 100000 in
theorem mw_646 : Cond.instanceMethod yX6_run ∈ gw_all := List.mem_filter.mpr ⟨mt_3 (List.mem_of_getElem? (i := 115) rfl), rfl⟩
set_option maxRecDepth 100000 in
theorem mw_647 : Cond.selects RX6 yX6_run yX6_run ∈ gw_all := List.mem_filter.mpr ⟨mt_3 (List.mem_of_getElem? (i := 116) rfl), rfl⟩
set_option maxRecDepth 100000 in
theorem mw_648 : Cond.code yX6_run cX6_run 2 (some .int) ∈ gw_all := List.mem_filter.mpr ⟨mt_3 (List.mem_of_getElem? (i := 117) rfl), rfl⟩
set_option maxRecDepth 100000 in
theorem mw_649 : Cond.methodLink RX6 213 yX6_hasTimeFor ∈ gw_all := List.mem_filter.mpr ⟨mt_3 (List.mem_of_getElem? (i := 118) rfl), rfl⟩
set_option maxRecDepth 100000 in
theorem mw_651 : Cond.instanceMethod yX6_hasTimeFor ∈ gw_all := List.mem_filter.mpr ⟨mt_3 (List.mem_of_getElem? (i := 120) rfl), rfl⟩
set_option maxRecDepth 100000 in
theorem mw_652 : Cond.code yX6_hasTimeFor cX6_hasTimeFor 2 (some .boolean) ∈ gw_all := List.mem_filter.mpr ⟨mt_3 (List.mem_of_getElem? (i := 121) rfl), rfl⟩
set_option maxRecDepth 100000 in
theorem mw_653 : Cond.constant RX6 338 99998 ∈ gw_all := List.mem_filter.mpr ⟨mt_3 (List.mem_of_getElem? (i := 122) rfl), rfl⟩
set_option maxRecDepth 100000 in
theorem mw_654 : Cond.methodLink RX6 216 yX5_heardInTurns ∈ gw_all := List.mem_filter.mpr ⟨mt_3 (List.mem_of_getElem? (i := 123) rfl), rfl⟩
set_option maxRecDepth 100000 in
theorem mw_655 : Cond.instanceMethod yX5_heardInTurns ∈ gw_all := List.mem_filter.mpr ⟨mt_3 (List.mem_of_getElem? (i := 124) rfl), rfl⟩
set_option maxRecDepth 100000 in
theorem mw_656 : Cond.selects RX5 yX5_heardInTurns yX5_heardInTurns ∈ gw_all := List.mem_filter.mpr ⟨mt_3 (List.mem_of_getElem? (i := 125) rfl), rfl⟩
set_option maxRecDepth 100000 in
theorem mw_657 : Cond.code yX5_heardInTurns cX5_heardInTurns 3 (some .int) ∈ gw_all := List.mem_filter.mpr ⟨mt_3 (List.mem_of_getElem? (i := 126) rfl), rfl⟩
set_option maxRecDepth 100000 in
theorem mw_658 : Cond.methodLink RX5 149 yX5_goOneTurn ∈ gw_all := List.mem_filter.mpr ⟨mt_3 (List.mem_of_getElem? (i := 127) rfl), rfl⟩
set_option maxRecDepth 100000 in
theorem mw_659 : Cond.instanceMethod yX5_goOneTurn ∈ gw_all := List.mem_filter.mpr ⟨mt_3 (List.mem_of_getElem? (i := 128) rfl), rfl⟩
set_option maxRecDepth 100000 in
theorem mw_660 : Cond.selects RX5 yX5_goOneTurn yX5_goOneTurn ∈ gw_all := List.mem_filter.mpr ⟨mt_3 (List.mem_of_getElem? (i := 129) rfl), rfl⟩
set_option maxRecDepth 100000 in
theorem mw_661 : Cond.code yX5_goOneTurn cX5_goOneTurn 2 none ∈ gw_all := List.mem_filter.mpr ⟨mt_3 (List.mem_of_getElem? (i := 130) rfl), rfl⟩
set_option maxRecDepth 100000 in
theorem mw_662 : Cond.methodLink RX5 152 yX5_changeMaps ∈ gw_all := List.mem_filter.mpr ⟨mt_3 (List.mem_of_getElem? (i := 131) rfl), rfl⟩
set_option maxRecDepth 100000 in
theorem mw_663 : Cond.instanceMethod yX5_changeMaps ∈ gw_all := List.mem_filter.mpr ⟨mt_3 (List.mem_of_getElem? (i := 132) rfl), rfl⟩
set_option maxRecDepth 100000 in
theorem mw_664 : Cond.selects RX5 yX5_changeMaps yX5_changeMaps ∈ gw_all := List.mem_filter.mpr ⟨mt_3 (List.mem_of_getElem? (i := 133) rfl), rfl⟩
set_option maxRecDepth 100000 in
theorem mw_665 : Cond.code yX5_changeMaps cX5_changeMaps 4 none ∈ gw_all := List.mem_filter.mpr ⟨mt_3 (List.mem_of_getElem? (i := 134) rfl), rfl⟩
set_option maxRecDepth 100000 in
theorem mw_666 : Cond.methodLink RX5 180 yX3_changesAt ∈ gw_all := List.mem_filter.mpr ⟨mt_3 (List.mem_of_getElem? (i := 135) rfl), rfl⟩
set_option maxRecDepth 100000 in
theorem mw_667 : Cond.instanceMethod yX3_changesAt ∈ gw_all := List.mem_filter.mpr ⟨mt_3 (List.mem_of_getElem? (i := 136) rfl), rfl⟩
set_option maxRecDepth 100000 in
theorem mw_668 : Cond.selects RX3 yX3_changesAt yX3_changesAt ∈ gw_all := List.mem_filter.mpr ⟨mt_3 (List.mem_of_getElem? (i := 137) rfl), rfl⟩
set_option maxRecDepth 100000 in
theorem mw_669 : Cond.code yX3_changesAt cX3_changesAt 2 (some .boolean) ∈ gw_all := List.mem_filter.mpr ⟨mt_3 (List.mem_of_getElem? (i := 138) rfl), rfl⟩
set_option maxRecDepth 100000 in
theorem mw_670 : Cond.methodLink RX3 22 yX3_takeAtOnce ∈ gw_all := List.mem_filter.mpr ⟨mt_3 (List.mem_of_getElem? (i := 139) rfl), rfl⟩
set_option maxRecDepth 100000 in
theorem mw_671 : Cond.instanceMethod yX3_takeAtOnce ∈ gw_all := List.mem_filter.mpr ⟨mt_3 (List.mem_of_getElem? (i := 140) rfl), rfl⟩
set_option maxRecDepth 100000 in
theorem mw_672 : Cond.selects RX3 yX3_takeAtOnce yX3_takeAtOnce ∈ gw_all := List.mem_filter.mpr ⟨mt_3 (List.mem_of_getElem? (i := 141) rfl), rfl⟩
set_option maxRecDepth 100000 in
theorem mw_673 : Cond.code yX3_takeAtOnce cX3_takeAtOnce 2 none ∈ gw_all := List.mem_filter.mpr ⟨mt_3 (List.mem_of_getElem? (i := 142) rfl), rfl⟩
set_option maxRecDepth 100000 in
theorem mw_674 : Cond.methodLink RX5 155 yX5_beginTurnOfLinks ∈ gw_all := List.mem_filter.mpr ⟨mt_3 (List.mem_of_getElem? (i := 143) rfl), rfl⟩
set_option maxRecDepth 100000 in
theorem mw_675 : Cond.instanceMethod yX5_beginTurnOfLinks ∈ gw_all := List.mem_filter.mpr ⟨mt_3 (List.mem_of_getElem? (i := 144) rfl), rfl⟩
set_option maxRecDepth 100000 in
theorem mw_676 : Cond.selects RX5 yX5_beginTurnOfLinks yX5_beginTurnOfLinks ∈ gw_all := List.mem_filter.mpr ⟨mt_3 (List.mem_of_getElem? (i := 145) rfl), rfl⟩
set_option maxRecDepth 100000 in
theorem mw_677 : Cond.code yX5_beginTurnOfLinks cX5_beginTurnOfLinks 4 none ∈ gw_all := List.mem_filter.mpr ⟨mt_3 (List.mem_of_getElem? (i := 146) rfl), rfl⟩
set_option maxRecDepth 100000 in
theorem mw_678 : Cond.methodLink RX5 186 yX0_openAt ∈ gw_all := List.mem_filter.mpr ⟨mt_3 (List.mem_of_getElem? (i := 147) rfl), rfl⟩
set_option maxRecDepth 100000 in
theorem mw_679 : Cond.instanceMethod yX0_openAt ∈ gw_all := List.mem_filter.mpr ⟨mt_3 (List.mem_of_getElem? (i := 148) rfl), rfl⟩
set_option maxRecDepth 100000 in
theorem mw_680 : Cond.selects RX0 yX0_openAt yX0_openAt ∈ gw_all := List.mem_filter.mpr ⟨mt_3 (List.mem_of_getElem? (i := 149) rfl), rfl⟩
set_option maxRecDepth 100000 in
theorem mw_681 : Cond.code yX0_openAt cX0_openAt 2 none ∈ gw_all := List.mem_filter.mpr ⟨mt_3 (List.mem_of_getElem? (i := 150) rfl), rfl⟩
set_option maxRecDepth 100000 in
theorem mw_682 : Cond.methodLink RX0 28 yX0_isDue ∈ gw_all := List.mem_filter.mpr ⟨mt_3 (List.mem_of_getElem? (i := 151) rfl), rfl⟩
set_option maxRecDepth 100000 in
theorem mw_683 : Cond.instanceMethod yX0_isDue ∈ gw_all := List.mem_filter.mpr ⟨mt_3 (List.mem_of_getElem? (i := 152) rfl), rfl⟩
set_option maxRecDepth 100000 in
theorem mw_684 : Cond.selects RX0 yX0_isDue yX0_isDue ∈ gw_all := List.mem_filter.mpr ⟨mt_3 (List.mem_of_getElem? (i := 153) rfl), rfl⟩
set_option maxRecDepth 100000 in
theorem mw_685 : Cond.code yX0_isDue cX0_isDue 2 (some .boolean) ∈ gw_all := List.mem_filter.mpr ⟨mt_3 (List.mem_of_getElem? (i := 154) rfl), rfl⟩
set_option maxRecDepth 100000 in
theorem mw_686 : Cond.methodLink RX5 189 yX5_isReadyAt ∈ gw_all := List.mem_filter.mpr ⟨mt_3 (List.mem_of_getElem? (i := 155) rfl), rfl⟩
set_option maxRecDepth 100000 in
theorem mw_687 : Cond.instanceMethod yX5_isReadyAt ∈ gw_all := List.mem_filter.mpr ⟨mt_3 (List.mem_of_getElem? (i := 156) rfl), rfl⟩
set_option maxRecDepth 100000 in
theorem mw_688 : Cond.selects RX5 yX5_isReadyAt yX5_isReadyAt ∈ gw_all := List.mem_filter.mpr ⟨mt_3 (List.mem_of_getElem? (i := 157) rfl), rfl⟩
set_option maxRecDepth 100000 in
theorem mw_689 : Cond.code yX5_isReadyAt cX5_isReadyAt 4 (some .boolean) ∈ gw_all := List.mem_filter.mpr ⟨mt_3 (List.mem_of_getElem? (i := 158) rfl), rfl⟩
set_option maxRecDepth 100000 in
theorem mw_690 : Cond.methodLink RX5 77 yX5_isPresent ∈ gw_all := List.mem_filter.mpr ⟨mt_3 (List.mem_of_getElem? (i := 159) rfl), rfl⟩
set_option maxRecDepth 100000 in
theorem mw_691 : Cond.instanceMethod yX5_isPresent ∈ gw_all := List.mem_filter.mpr ⟨mt_3 (List.mem_of_getElem? (i := 160) rfl), rfl⟩
set_option maxRecDepth 100000 in
theorem mw_692 : Cond.selects RX5 yX5_isPresent yX5_isPresent ∈ gw_all := List.mem_filter.mpr ⟨mt_3 (List.mem_of_getElem? (i := 161) rfl), rfl⟩
set_option maxRecDepth 100000 in
theorem mw_693 : Cond.code yX5_isPresent cX5_isPresent 4 (some .boolean) ∈ gw_all := List.mem_filter.mpr ⟨mt_3 (List.mem_of_getElem? (i := 162) rfl), rfl⟩
set_option maxRecDepth 100000 in
theorem mw_694 : Cond.methodLink RX5 68 yX2_holds ∈ gw_all := List.mem_filter.mpr ⟨mt_3 (List.mem_of_getElem? (i := 163) rfl), rfl⟩
set_option maxRecDepth 100000 in
theorem mw_695 : Cond.methodLink RX5 81 yX1_isAwake ∈ gw_all := List.mem_filter.mpr ⟨mt_3 (List.mem_of_getElem? (i := 164) rfl), rfl⟩
set_option maxRecDepth 100000 in
theorem mw_696 : Cond.instanceMethod yX1_isAwake ∈ gw_all := List.mem_filter.mpr ⟨mt_3 (List.mem_of_getElem? (i := 165) rfl), rfl⟩
set_option maxRecDepth 100000 in
theorem mw_697 : Cond.selects RX1 yX1_isAwake yX1_isAwake ∈ gw_all := List.mem_filter.mpr ⟨mt_3 (List.mem_of_getElem? (i := 166) rfl), rfl⟩
set_option maxRecDepth 100000 in
theorem mw_698 : Cond.code yX1_isAwake cX1_isAwake 2 (some .boolean) ∈ gw_all := List.mem_filter.mpr ⟨mt_3 (List.mem_of_getElem? (i := 167) rfl), rfl⟩
set_option maxRecDepth 100000 in
theorem mw_699 : Cond.methodLink RX5 159 yX5_chooseIn ∈ gw_all := List.mem_filter.mpr ⟨mt_3 (List.mem_of_getElem? (i := 168) rfl), rfl⟩
set_option maxRecDepth 100000 in
theorem mw_700 : Cond.instanceMethod yX5_chooseIn ∈ gw_all := List.mem_filter.mpr ⟨mt_3 (List.mem_of_getElem? (i := 169) rfl), rfl⟩
set_option maxRecDepth 100000 in
theorem mw_701 : Cond.selects RX5 yX5_chooseIn yX5_chooseIn ∈ gw_all := List.mem_filter.mpr ⟨mt_3 (List.mem_of_getElem? (i := 170) rfl), rfl⟩
set_option maxRecDepth 100000 in
theorem mw_702 : Cond.code yX5_chooseIn cX5_chooseIn 4 none ∈ gw_all := List.mem_filter.mpr ⟨mt_3 (List.mem_of_getElem? (i := 171) rfl), rfl⟩
set_option maxRecDepth 100000 in
theorem mw_703 : Cond.methodLink RX5 209 yX2_firstWithOpenFrame ∈ gw_all := List.mem_filter.mpr ⟨mt_3 (List.mem_of_getElem? (i := 172) rfl), rfl⟩
set_option maxRecDepth 100000 in
theorem mw_704 : Cond.instanceMethod yX2_firstWithOpenFrame ∈ gw_all := List.mem_filter.mpr ⟨mt_3 (List.mem_of_getElem? (i := 173) rfl), rfl⟩
set_option maxRecDepth 100000 in
theorem mw_705 : Cond.selects RX2 yX2_firstWithOpenFrame yX2_firstWithOpenFrame ∈ gw_all := List.mem_filter.mpr ⟨mt_3 (List.mem_of_getElem? (i := 174) rfl), rfl⟩
set_option maxRecDepth 100000 in
theorem mw_706 : Cond.code yX2_firstWithOpenFrame cX2_firstWithOpenFrame 2 (some .int) ∈ gw_all := List.mem_filter.mpr ⟨mt_3 (List.mem_of_getElem? (i := 175) rfl), rfl⟩
set_option maxRecDepth 100000 in
theorem mw_707 : Cond.methodLink RX5 213 yX2_firstNotKnown ∈ gw_all := List.mem_filter.mpr ⟨mt_3 (List.mem_of_getElem? (i := 176) rfl), rfl⟩
set_option maxRecDepth 100000 in
theorem mw_708 : Cond.instanceMethod yX2_firstNotKnown ∈ gw_all := List.mem_filter.mpr ⟨mt_3 (List.mem_of_getElem? (i := 177) rfl), rfl⟩
set_option maxRecDepth 100000 in
theorem mw_709 : Cond.selects RX2 yX2_firstNotKnown yX2_firstNotKnown ∈ gw_all := List.mem_filter.mpr ⟨mt_3 (List.mem_of_getElem? (i := 178) rfl), rfl⟩
set_option maxRecDepth 100000 in
theorem mw_710 : Cond.code yX2_firstNotKnown cX2_firstNotKnown 2 (some .int) ∈ gw_all := List.mem_filter.mpr ⟨mt_3 (List.mem_of_getElem? (i := 179) rfl), rfl⟩
set_option maxRecDepth 100000 in
theorem mw_711 : Cond.methodLink RX5 219 yX2_nextPolled ∈ gw_all := List.mem_filter.mpr ⟨mt_3 (List.mem_of_getElem? (i := 180) rfl), rfl⟩
set_option maxRecDepth 100000 in
theorem mw_712 : Cond.instanceMethod yX2_nextPolled ∈ gw_all := List.mem_filter.mpr ⟨mt_3 (List.mem_of_getElem? (i := 181) rfl), rfl⟩
set_option maxRecDepth 100000 in
theorem mw_713 : Cond.selects RX2 yX2_nextPolled yX2_nextPolled ∈ gw_all := List.mem_filter.mpr ⟨mt_3 (List.mem_of_getElem? (i := 182) rfl), rfl⟩
set_option maxRecDepth 100000 in
theorem mw_714 : Cond.code yX2_nextPolled cX2_nextPolled 6 (some .int) ∈ gw_all := List.mem_filter.mpr ⟨mt_3 (List.mem_of_getElem? (i := 183) rfl), rfl⟩
set_option maxRecDepth 100000 in
theorem mw_715 : Cond.methodLink RX5 162 yX5_tunePacket ∈ gw_all := List.mem_filter.mpr ⟨mt_3 (List.mem_of_getElem? (i := 184) rfl), rfl⟩
set_option maxRecDepth 100000 in
theorem mw_716 : Cond.instanceMethod yX5_tunePacket ∈ gw_all := List.mem_filter.mpr ⟨mt_3 (List.mem_of_getElem? (i := 185) rfl), rfl⟩
set_option maxRecDepth 100000 in
theorem mw_717 : Cond.selects RX5 yX5_tunePacket yX5_tunePacket ∈ gw_all := List.mem_filter.mpr ⟨mt_3 (List.mem_of_getElem? (i := 186) rfl), rfl⟩
set_option maxRecDepth 100000 in
theorem mw_718 : Cond.code yX5_tunePacket cX5_tunePacket 5 none ∈ gw_all := List.mem_filter.mpr ⟨mt_3 (List.mem_of_getElem? (i := 187) rfl), rfl⟩
set_option maxRecDepth 100000 in
theorem mw_719 : Cond.methodLink RX5 238 yX3_hasNext ∈ gw_all := List.mem_filter.mpr ⟨mt_3 (List.mem_of_getElem? (i := 188) rfl), rfl⟩
set_option maxRecDepth 100000 in
theorem mw_720 : Cond.methodLink RX5 98 yX5_hopIn ∈ gw_all := List.mem_filter.mpr ⟨mt_3 (List.mem_of_getElem? (i := 189) rfl), rfl⟩
set_option maxRecDepth 100000 in
theorem mw_721 : Cond.instanceMethod yX5_hopIn ∈ gw_all := List.mem_filter.mpr ⟨mt_3 (List.mem_of_getElem? (i := 190) rfl), rfl⟩
set_option maxRecDepth 100000 in
theorem mw_722 : Cond.selects RX5 yX5_hopIn yX5_hopIn ∈ gw_all := List.mem_filter.mpr ⟨mt_3 (List.mem_of_getElem? (i := 191) rfl), rfl⟩
set_option maxRecDepth 100000 in
theorem mw_723 : Cond.code yX5_hopIn cX5_hopIn 3 (some .int) ∈ gw_all := List.mem_filter.mpr ⟨mt_3 (List.mem_of_getElem? (i := 192) rfl), rfl⟩
set_option maxRecDepth 100000 in
theorem mw_724 : Cond.methodLink RX5 87 yX5_addressOf ∈ gw_all := List.mem_filter.mpr ⟨mt_3 (List.mem_of_getElem? (i := 193) rfl), rfl⟩
set_option maxRecDepth 100000 in
theorem mw_725 : Cond.instanceMethod yX5_addressOf ∈ gw_all := List.mem_filter.mpr ⟨mt_3 (List.mem_of_getElem? (i := 194) rfl), rfl⟩
set_option maxRecDepth 100000 in
theorem mw_726 : Cond.selects RX5 yX5_addressOf yX5_addressOf ∈ gw_all := List.mem_filter.mpr ⟨mt_3 (List.mem_of_getElem? (i := 195) rfl), rfl⟩
set_option maxRecDepth 100000 in
theorem mw_727 : Cond.code yX5_addressOf cX5_addressOf 2 (some .int) ∈ gw_all := List.mem_filter.mpr ⟨mt_3 (List.mem_of_getElem? (i := 196) rfl), rfl⟩
set_option maxRecDepth 100000 in
theorem mw_728 : Cond.methodLink RX5 84 yX5_hasRadio ∈ gw_all := List.mem_filter.mpr ⟨mt_3 (List.mem_of_getElem? (i := 197) rfl), rfl⟩
set_option maxRecDepth 100000 in
theorem nw_729 : Cond.methodLinkNest RX5 94 yX6_hopOf RX6 ∈ lw_tbl := mt_3 (List.mem_of_getElem? (i := 198) rfl)
set_option maxRecDepth 100000 in
theorem mw_730 : Cond.static yX6_hopOf ∈ gw_all := List.mem_filter.mpr ⟨mt_3 (List.mem_of_getElem? (i := 199) rfl), rfl⟩
set_option maxRecDepth 100000 in
theorem mw_731 : Cond.code yX6_hopOf cX6_hopOf 8 (some .int) ∈ gw_all := List.mem_filter.mpr ⟨mt_3 (List.mem_of_getElem? (i := 200) rfl), rfl⟩
set_option maxRecDepth 100000 in
theorem mw_732 : Cond.fieldLink RX6 408 RX6 "EXCHANGE_ONE" "[I" ∈ gw_all := List.mem_filter.mpr ⟨mt_3 (List.mem_of_getElem? (i := 201) rfl), rfl⟩
set_option maxRecDepth 100000 in
theorem nw_733 : Cond.laysStatic RX6 "EXCHANGE_ONE" "[I" ∈ lw_tbl := mt_3 (List.mem_of_getElem? (i := 202) rfl)
set_option maxRecDepth 100000 in
theorem mw_734 : Cond.fieldLink RX6 411 RX6 "EXCHANGE_OTHER" "[I" ∈ gw_all := List.mem_filter.mpr ⟨mt_3 (List.mem_of_getElem? (i := 203) rfl), rfl⟩
set_option maxRecDepth 100000 in
theorem nw_735 : Cond.laysStatic RX6 "EXCHANGE_OTHER" "[I" ∈ lw_tbl := mt_3 (List.mem_of_getElem? (i := 204) rfl)
set_option maxRecDepth 100000 in
theorem nw_736 : Cond.methodLinkNest RX5 101 yX6_byMap RX6 ∈ lw_tbl := mt_3 (List.mem_of_getElem? (i := 205) rfl)
set_option maxRecDepth 100000 in
theorem mw_737 : Cond.static yX6_byMap ∈ gw_all := List.mem_filter.mpr ⟨mt_3 (List.mem_of_getElem? (i := 206) rfl), rfl⟩
set_option maxRecDepth 100000 in
theorem mw_738 : Cond.code yX6_byMap cX6_byMap 5 (some .int) ∈ gw_all := List.mem_filter.mpr ⟨mt_3 (List.mem_of_getElem? (i := 207) rfl), rfl⟩
set_option maxRecDepth 100000 in
theorem mw_739 : Cond.methodLink RX5 165 yX5_sendPacket ∈ gw_all := List.mem_filter.mpr ⟨mt_3 (List.mem_of_getElem? (i := 208) rfl), rfl⟩
set_option maxRecDepth 100000 in
theorem mw_740 : Cond.instanceMethod yX5_sendPacket ∈ gw_all := List.mem_filter.mpr ⟨mt_3 (List.mem_of_getElem? (i := 209) rfl), rfl⟩
set_option maxRecDepth 100000 in
theorem mw_741 : Cond.selects RX5 yX5_sendPacket yX5_sendPacket ∈ gw_all := List.mem_filter.mpr ⟨mt_3 (List.mem_of_getElem? (i := 210) rfl), rfl⟩
set_option maxRecDepth 100000 in
theorem mw_742 : Cond.code yX5_sendPacket cX5_sendPacket 5 none ∈ gw_all := List.mem_filter.mpr ⟨mt_3 (List.mem_of_getElem? (i := 211) rfl), rfl⟩
set_option maxRecDepth 100000 in
theorem mw_743 : Cond.methodLink RX5 248 yX5_lossOnAir ∈ gw_all := List.mem_filter.mpr ⟨mt_3 (List.mem_of_getElem? (i := 212) rfl), rfl⟩
set_option maxRecDepth 100000 in
theorem mw_744 : Cond.instanceMethod yX5_lossOnAir ∈ gw_all := List.mem_filter.mpr ⟨mt_3 (List.mem_of_getElem? (i := 213) rfl), rfl⟩
set_option maxRecDepth 100000 in
theorem mw_745 : Cond.selects RX5 yX5_lossOnAir yX5_lossOnAir ∈ gw_all := List.mem_filter.mpr ⟨mt_3 (List.mem_of_getElem? (i := 214) rfl), rfl⟩
set_option maxRecDepth 100000 in
theorem mw_746 : Cond.code yX5_lossOnAir cX5_lossOnAir 3 (some .int) ∈ gw_all := List.mem_filter.mpr ⟨mt_3 (List.mem_of_getElem? (i := 215) rfl), rfl⟩
set_option maxRecDepth 100000 in
theorem mw_747 : Cond.methodLink RX5 229 yX5_draw ∈ gw_all := List.mem_filter.mpr ⟨mt_3 (List.mem_of_getElem? (i := 216) rfl), rfl⟩
set_option maxRecDepth 100000 in
theorem mw_748 : Cond.instanceMethod yX5_draw ∈ gw_all := List.mem_filter.mpr ⟨mt_3 (List.mem_of_getElem? (i := 217) rfl), rfl⟩
set_option maxRecDepth 100000 in
theorem mw_749 : Cond.selects RX5 yX5_draw yX5_draw ∈ gw_all := List.mem_filter.mpr ⟨mt_3 (List.mem_of_getElem? (i := 218) rfl), rfl⟩
set_option maxRecDepth 100000 in
theorem mw_750 : Cond.code yX5_draw cX5_draw 1 (some .int) ∈ gw_all := List.mem_filter.mpr ⟨mt_3 (List.mem_of_getElem? (i := 219) rfl), rfl⟩
set_option maxRecDepth 100000 in
theorem mw_751 : Cond.constant RX5 225 1000003 ∈ gw_all := List.mem_filter.mpr ⟨mt_3 (List.mem_of_getElem? (i := 220) rfl), rfl⟩
set_option maxRecDepth 100000 in
theorem mw_752 : Cond.methodLink RX5 118 yX5_noiseOn ∈ gw_all := List.mem_filter.mpr ⟨mt_3 (List.mem_of_getElem? (i := 221) rfl), rfl⟩
set_option maxRecDepth 100000 in
theorem mw_753 : Cond.instanceMethod yX5_noiseOn ∈ gw_all := List.mem_filter.mpr ⟨mt_3 (List.mem_of_getElem? (i := 222) rfl), rfl⟩
set_option maxRecDepth 100000 in
theorem mw_754 : Cond.selects RX5 yX5_noiseOn yX5_noiseOn ∈ gw_all := List.mem_filter.mpr ⟨mt_3 (List.mem_of_getElem? (i := 223) rfl), rfl⟩
set_option maxRecDepth 100000 in
theorem mw_755 : Cond.code yX5_noiseOn cX5_noiseOn 2 (some .int) ∈ gw_all := List.mem_filter.mpr ⟨mt_3 (List.mem_of_getElem? (i := 224) rfl), rfl⟩
set_option maxRecDepth 100000 in
theorem mw_756 : Cond.methodLink RX5 251 yX2_tallySent ∈ gw_all := List.mem_filter.mpr ⟨mt_3 (List.mem_of_getElem? (i := 225) rfl), rfl⟩
set_option maxRecDepth 100000 in
theorem mw_757 : Cond.instanceMethod yX2_tallySent ∈ gw_all := List.mem_filter.mpr ⟨mt_3 (List.mem_of_getElem? (i := 226) rfl), rfl⟩
set_option maxRecDepth 100000 in
theorem mw_758 : Cond.selects RX2 yX2_tallySent yX2_tallySent ∈ gw_all := List.mem_filter.mpr ⟨mt_3 (List.mem_of_getElem? (i := 227) rfl), rfl⟩
set_option maxRecDepth 100000 in
theorem mw_759 : Cond.code yX2_tallySent cX2_tallySent 1 none ∈ gw_all := List.mem_filter.mpr ⟨mt_3 (List.mem_of_getElem? (i := 228) rfl), rfl⟩
set_option maxRecDepth 100000 in
theorem mw_760 : Cond.methodLink RX5 168 yX5_hearPacket ∈ gw_all := List.mem_filter.mpr ⟨mt_3 (List.mem_of_getElem? (i := 229) rfl), rfl⟩
set_option maxRecDepth 100000 in
theorem mw_761 : Cond.instanceMethod yX5_hearPacket ∈ gw_all := List.mem_filter.mpr ⟨mt_3 (List.mem_of_getElem? (i := 230) rfl), rfl⟩
set_option maxRecDepth 100000 in
theorem mw_762 : Cond.selects RX5 yX5_hearPacket yX5_hearPacket ∈ gw_all := List.mem_filter.mpr ⟨mt_3 (List.mem_of_getElem? (i := 231) rfl), rfl⟩
set_option maxRecDepth 100000 in
theorem mw_763 : Cond.code yX5_hearPacket cX5_hearPacket 4 none ∈ gw_all := List.mem_filter.mpr ⟨mt_3 (List.mem_of_getElem? (i := 232) rfl), rfl⟩
set_option maxRecDepth 100000 in
theorem mw_764 : Cond.methodLink RX5 257 yX2_endCastTurn ∈ gw_all := List.mem_filter.mpr ⟨mt_3 (List.mem_of_getElem? (i := 233) rfl), rfl⟩
set_option maxRecDepth 100000 in
theorem mw_765 : Cond.instanceMethod yX2_endCastTurn ∈ gw_all := List.mem_filter.mpr ⟨mt_3 (List.mem_of_getElem? (i := 234) rfl), rfl⟩
set_option maxRecDepth 100000 in
theorem mw_766 : Cond.selects RX2 yX2_endCastTurn yX2_endCastTurn ∈ gw_all := List.mem_filter.mpr ⟨mt_3 (List.mem_of_getElem? (i := 235) rfl), rfl⟩
set_option maxRecDepth 100000 in
theorem mw_767 : Cond.code yX2_endCastTurn cX2_endCastTurn 3 none ∈ gw_all := List.mem_filter.mpr ⟨mt_3 (List.mem_of_getElem? (i := 236) rfl), rfl⟩
set_option maxRecDepth 100000 in
theorem nw_768 : Cond.methodLinkNest RX2 133 yX6_byMap RX6 ∈ lw_tbl := mt_3 (List.mem_of_getElem? (i := 237) rfl)
set_option maxRecDepth 100000 in
theorem mw_769 : Cond.methodLink RX2 137 yX1_hearCast ∈ gw_all := List.mem_filter.mpr ⟨mt_3 (List.mem_of_getElem? (i := 238) rfl), rfl⟩
set_option maxRecDepth 100000 in
theorem mw_770 : Cond.instanceMethod yX1_hearCast ∈ gw_all := List.mem_filter.mpr ⟨mt_3 (List.mem_of_getElem? (i := 239) rfl), rfl⟩
set_option maxRecDepth 100000 in
theorem mw_771 : Cond.selects RX1 yX1_hearCast yX1_hearCast ∈ gw_all := List.mem_filter.mpr ⟨mt_4 (List.mem_of_getElem? (i := 0) rfl), rfl⟩
set_option maxRecDepth 100000 in
theorem mw_772 : Cond.code yX1_hearCast cX1_hearCast 3 none ∈ gw_all := List.mem_filter.mpr ⟨mt_4 (List.mem_of_getElem? (i := 1) rfl), rfl⟩
set_option maxRecDepth 100000 in
theorem mw_773 : Cond.methodLink RX2 140 yX2_dropFirstCast ∈ gw_all := List.mem_filter.mpr ⟨mt_4 (List.mem_of_getElem? (i := 2) rfl), rfl⟩
set_option maxRecDepth 100000 in
theorem mw_774 : Cond.instanceMethod yX2_dropFirstCast ∈ gw_all := List.mem_filter.mpr ⟨mt_4 (List.mem_of_getElem? (i := 3) rfl), rfl⟩
set_option maxRecDepth 100000 in
theorem mw_775 : Cond.selects RX2 yX2_dropFirstCast yX2_dropFirstCast ∈ gw_all := List.mem_filter.mpr ⟨mt_4 (List.mem_of_getElem? (i := 4) rfl), rfl⟩
set_option maxRecDepth 100000 in
theorem mw_776 : Cond.code yX2_dropFirstCast cX2_dropFirstCast 2 none ∈ gw_all := List.mem_filter.mpr ⟨mt_4 (List.mem_of_getElem? (i := 5) rfl), rfl⟩
set_option maxRecDepth 100000 in
theorem mw_777 : Cond.methodLink RX5 263 yX4_takeFirst ∈ gw_all := List.mem_filter.mpr ⟨mt_4 (List.mem_of_getElem? (i := 6) rfl), rfl⟩
set_option maxRecDepth 100000 in
theorem mw_778 : Cond.instanceMethod yX4_takeFirst ∈ gw_all := List.mem_filter.mpr ⟨mt_4 (List.mem_of_getElem? (i := 7) rfl), rfl⟩
set_option maxRecDepth 100000 in
theorem mw_779 : Cond.selects RX4 yX4_takeFirst yX4_takeFirst ∈ gw_all := List.mem_filter.mpr ⟨mt_4 (List.mem_of_getElem? (i := 8) rfl), rfl⟩
set_option maxRecDepth 100000 in
theorem mw_780 : Cond.code yX4_takeFirst cX4_takeFirst 3 none ∈ gw_all := List.mem_filter.mpr ⟨mt_4 (List.mem_of_getElem? (i := 9) rfl), rfl⟩
set_option maxRecDepth 100000 in
theorem mw_781 : Cond.methodLink RX4 43 yJ9_max_7cf53 ∈ gw_all := List.mem_filter.mpr ⟨mt_4 (List.mem_of_getElem? (i := 10) rfl), rfl⟩
set_option maxRecDepth 100000 in
theorem mw_782 : Cond.static yJ9_max_7cf53 ∈ gw_all := List.mem_filter.mpr ⟨mt_4 (List.mem_of_getElem? (i := 11) rfl), rfl⟩
set_option maxRecDepth 100000 in
theorem mw_783 : Cond.code yJ9_max_7cf53 cJ9_max_7cf53 2 (some .int) ∈ gw_all := List.mem_filter.mpr ⟨mt_4 (List.mem_of_getElem? (i := 12) rfl), rfl⟩
set_option maxRecDepth 100000 in
theorem mw_784 : Cond.methodLink RX5 266 yX4_hearFirst ∈ gw_all := List.mem_filter.mpr ⟨mt_4 (List.mem_of_getElem? (i := 13) rfl), rfl⟩
set_option maxRecDepth 100000 in
theorem mw_785 : Cond.instanceMethod yX4_hearFirst ∈ gw_all := List.mem_filter.mpr ⟨mt_4 (List.mem_of_getElem? (i := 14) rfl), rfl⟩
set_option maxRecDepth 100000 in
theorem mw_786 : Cond.selects RX4 yX4_hearFirst yX4_hearFirst ∈ gw_all := List.mem_filter.mpr ⟨mt_4 (List.mem_of_getElem? (i := 15) rfl), rfl⟩
set_option maxRecDepth 100000 in
theorem mw_787 : Cond.code yX4_hearFirst cX4_hearFirst 1 (some .boolean) ∈ gw_all := List.mem_filter.mpr ⟨mt_4 (List.mem_of_getElem? (i := 16) rfl), rfl⟩
set_option maxRecDepth 100000 in
theorem mw_788 : Cond.methodLink RX5 269 yX5_passOn ∈ gw_all := List.mem_filter.mpr ⟨mt_4 (List.mem_of_getElem? (i := 17) rfl), rfl⟩
set_option maxRecDepth 100000 in
theorem mw_789 : Cond.instanceMethod yX5_passOn ∈ gw_all := List.mem_filter.mpr ⟨mt_4 (List.mem_of_getElem? (i := 18) rfl), rfl⟩
set_option maxRecDepth 100000 in
theorem mw_790 : Cond.selects RX5 yX5_passOn yX5_passOn ∈ gw_all := List.mem_filter.mpr ⟨mt_4 (List.mem_of_getElem? (i := 19) rfl), rfl⟩
set_option maxRecDepth 100000 in
theorem mw_791 : Cond.code yX5_passOn cX5_passOn 5 none ∈ gw_all := List.mem_filter.mpr ⟨mt_4 (List.mem_of_getElem? (i := 20) rfl), rfl⟩
set_option maxRecDepth 100000 in
theorem mw_792 : Cond.methodLink RX5 280 yX2_linkOfRadio ∈ gw_all := List.mem_filter.mpr ⟨mt_4 (List.mem_of_getElem? (i := 21) rfl), rfl⟩
set_option maxRecDepth 100000 in
theorem mw_793 : Cond.instanceMethod yX2_linkOfRadio ∈ gw_all := List.mem_filter.mpr ⟨mt_4 (List.mem_of_getElem? (i := 22) rfl), rfl⟩
set_option maxRecDepth 100000 in
theorem mw_794 : Cond.selects RX2 yX2_linkOfRadio yX2_linkOfRadio ∈ gw_all := List.mem_filter.mpr ⟨mt_4 (List.mem_of_getElem? (i := 23) rfl), rfl⟩
set_option maxRecDepth 100000 in
theorem mw_795 : Cond.code yX2_linkOfRadio cX2_linkOfRadio 3 (some (.object "HopNet$Link")) ∈ gw_all := List.mem_filter.mpr ⟨mt_4 (List.mem_of_getElem? (i := 24) rfl), rfl⟩
set_option maxRecDepth 100000 in
theorem mw_796 : Cond.methodLink RX5 283 yX4_isFull ∈ gw_all := List.mem_filter.mpr ⟨mt_4 (List.mem_of_getElem? (i := 25) rfl), rfl⟩
set_option maxRecDepth 100000 in
theorem mw_797 : Cond.methodLink RX5 286 yX4_append ∈ gw_all := List.mem_filter.mpr ⟨mt_4 (List.mem_of_getElem? (i := 26) rfl), rfl⟩
set_option maxRecDepth 100000 in
theorem mw_798 : Cond.methodLink RX5 273 yX1_hearMapOf ∈ gw_all := List.mem_filter.mpr ⟨mt_4 (List.mem_of_getElem? (i := 27) rfl), rfl⟩
set_option maxRecDepth 100000 in
theorem mw_799 : Cond.instanceMethod yX1_hearMapOf ∈ gw_all := List.mem_filter.mpr ⟨mt_4 (List.mem_of_getElem? (i := 28) rfl), rfl⟩
set_option maxRecDepth 100000 in
theorem mw_800 : Cond.selects RX1 yX1_hearMapOf yX1_hearMapOf ∈ gw_all := List.mem_filter.mpr ⟨mt_4 (List.mem_of_getElem? (i := 29) rfl), rfl⟩
set_option maxRecDepth 100000 in
theorem mw_801 : Cond.code yX1_hearMapOf cX1_hearMapOf 2 none ∈ gw_all := List.mem_filter.mpr ⟨mt_4 (List.mem_of_getElem? (i := 30) rfl), rfl⟩
set_option maxRecDepth 100000 in
theorem mw_802 : Cond.methodLink RX1 94 yX3_hasNext ∈ gw_all := List.mem_filter.mpr ⟨mt_4 (List.mem_of_getElem? (i := 31) rfl), rfl⟩
set_option maxRecDepth 100000 in
theorem mw_803 : Cond.methodLink RX1 104 yX3_expect ∈ gw_all := List.mem_filter.mpr ⟨mt_4 (List.mem_of_getElem? (i := 32) rfl), rfl⟩
set_option maxRecDepth 100000 in
theorem mw_804 : Cond.methodLink RX1 111 yX3_takeAtOnce ∈ gw_all := List.mem_filter.mpr ⟨mt_4 (List.mem_of_getElem? (i := 33) rfl), rfl⟩
set_option maxRecDepth 100000 in
theorem mw_805 : Cond.methodLink RX5 171 yX5_tuneAnswer ∈ gw_all := List.mem_filter.mpr ⟨mt_4 (List.mem_of_getElem? (i := 34) rfl), rfl⟩
set_option maxRecDepth 100000 in
theorem mw_806 : Cond.instanceMethod yX5_tuneAnswer ∈ gw_all := List.mem_filter.mpr ⟨mt_4 (List.mem_of_getElem? (i := 35) rfl), rfl⟩
set_option maxRecDepth 100000 in
theorem mw_807 : Cond.selects RX5 yX5_tuneAnswer yX5_tuneAnswer ∈ gw_all := List.mem_filter.mpr ⟨mt_4 (List.mem_of_getElem? (i := 36) rfl), rfl⟩
set_option maxRecDepth 100000 in
theorem mw_808 : Cond.code yX5_tuneAnswer cX5_tuneAnswer 4 none ∈ gw_all := List.mem_filter.mpr ⟨mt_4 (List.mem_of_getElem? (i := 37) rfl), rfl⟩
set_option maxRecDepth 100000 in
theorem mw_809 : Cond.methodLink RX5 174 yX5_sendAnswer ∈ gw_all := List.mem_filter.mpr ⟨mt_4 (List.mem_of_getElem? (i := 38) rfl), rfl⟩
set_option maxRecDepth 100000 in
theorem mw_810 : Cond.instanceMethod yX5_sendAnswer ∈ gw_all := List.mem_filter.mpr ⟨mt_4 (List.mem_of_getElem? (i := 39) rfl), rfl⟩
set_option maxRecDepth 100000 in
theorem mw_811 : Cond.selects RX5 yX5_sendAnswer yX5_sendAnswer ∈ gw_all := List.mem_filter.mpr ⟨mt_4 (List.mem_of_getElem? (i := 40) rfl), rfl⟩
set_option maxRecDepth 100000 in
theorem mw_812 : Cond.code yX5_sendAnswer cX5_sendAnswer 5 none ∈ gw_all := List.mem_filter.mpr ⟨mt_4 (List.mem_of_getElem? (i := 41) rfl), rfl⟩
set_option maxRecDepth 100000 in
theorem mw_813 : Cond.methodLink RX5 290 yX5_hearAnswer ∈ gw_all := List.mem_filter.mpr ⟨mt_4 (List.mem_of_getElem? (i := 42) rfl), rfl⟩
set_option maxRecDepth 100000 in
theorem mw_814 : Cond.instanceMethod yX5_hearAnswer ∈ gw_all := List.mem_filter.mpr ⟨mt_4 (List.mem_of_getElem? (i := 43) rfl), rfl⟩
set_option maxRecDepth 100000 in
theorem mw_815 : Cond.selects RX5 yX5_hearAnswer yX5_hearAnswer ∈ gw_all := List.mem_filter.mpr ⟨mt_4 (List.mem_of_getElem? (i := 44) rfl), rfl⟩
set_option maxRecDepth 100000 in
theorem mw_816 : Cond.code yX5_hearAnswer cX5_hearAnswer 3 none ∈ gw_all := List.mem_filter.mpr ⟨mt_4 (List.mem_of_getElem? (i := 45) rfl), rfl⟩
set_option maxRecDepth 100000 in
theorem mw_817 : Cond.methodLink RX5 294 yX2_tallyAnswered ∈ gw_all := List.mem_filter.mpr ⟨mt_4 (List.mem_of_getElem? (i := 46) rfl), rfl⟩
set_option maxRecDepth 100000 in
theorem mw_818 : Cond.instanceMethod yX2_tallyAnswered ∈ gw_all := List.mem_filter.mpr ⟨mt_4 (List.mem_of_getElem? (i := 47) rfl), rfl⟩
set_option maxRecDepth 100000 in
theorem mw_819 : Cond.selects RX2 yX2_tallyAnswered yX2_tallyAnswered ∈ gw_all := List.mem_filter.mpr ⟨mt_4 (List.mem_of_getElem? (i := 48) rfl), rfl⟩
set_option maxRecDepth 100000 in
theorem mw_820 : Cond.code yX2_tallyAnswered cX2_tallyAnswered 1 none ∈ gw_all := List.mem_filter.mpr ⟨mt_4 (List.mem_of_getElem? (i := 49) rfl), rfl⟩
set_option maxRecDepth 100000 in
theorem mw_821 : Cond.methodLink RX5 303 yX0_answer ∈ gw_all := List.mem_filter.mpr ⟨mt_4 (List.mem_of_getElem? (i := 50) rfl), rfl⟩
set_option maxRecDepth 100000 in
theorem mw_822 : Cond.instanceMethod yX0_answer ∈ gw_all := List.mem_filter.mpr ⟨mt_4 (List.mem_of_getElem? (i := 51) rfl), rfl⟩
set_option maxRecDepth 100000 in
theorem mw_823 : Cond.selects RX0 yX0_answer yX0_answer ∈ gw_all := List.mem_filter.mpr ⟨mt_4 (List.mem_of_getElem? (i := 52) rfl), rfl⟩
set_option maxRecDepth 100000 in
theorem mw_824 : Cond.code yX0_answer cX0_answer 1 none ∈ gw_all := List.mem_filter.mpr ⟨mt_4 (List.mem_of_getElem? (i := 53) rfl), rfl⟩
set_option maxRecDepth 100000 in
theorem mw_825 : Cond.methodLink RX5 177 yX5_endTurnOfLinks ∈ gw_all := List.mem_filter.mpr ⟨mt_4 (List.mem_of_getElem? (i := 54) rfl), rfl⟩
set_option maxRecDepth 100000 in
theorem mw_826 : Cond.instanceMethod yX5_endTurnOfLinks ∈ gw_all := List.mem_filter.mpr ⟨mt_4 (List.mem_of_getElem? (i := 55) rfl), rfl⟩
set_option maxRecDepth 100000 in
theorem mw_827 : Cond.selects RX5 yX5_endTurnOfLinks yX5_endTurnOfLinks ∈ gw_all := List.mem_filter.mpr ⟨mt_4 (List.mem_of_getElem? (i := 56) rfl), rfl⟩
set_option maxRecDepth 100000 in
theorem mw_828 : Cond.code yX5_endTurnOfLinks cX5_endTurnOfLinks 3 none ∈ gw_all := List.mem_filter.mpr ⟨mt_4 (List.mem_of_getElem? (i := 57) rfl), rfl⟩
set_option maxRecDepth 100000 in
theorem mw_829 : Cond.methodLink RX5 200 yX0_endTurn ∈ gw_all := List.mem_filter.mpr ⟨mt_4 (List.mem_of_getElem? (i := 58) rfl), rfl⟩
set_option maxRecDepth 100000 in
theorem mw_830 : Cond.instanceMethod yX0_endTurn ∈ gw_all := List.mem_filter.mpr ⟨mt_4 (List.mem_of_getElem? (i := 59) rfl), rfl⟩
set_option maxRecDepth 100000 in
theorem mw_831 : Cond.selects RX0 yX0_endTurn yX0_endTurn ∈ gw_all := List.mem_filter.mpr ⟨mt_4 (List.mem_of_getElem? (i := 60) rfl), rfl⟩
set_option maxRecDepth 100000 in
theorem mw_832 : Cond.code yX0_endTurn cX0_endTurn 1 none ∈ gw_all := List.mem_filter.mpr ⟨mt_4 (List.mem_of_getElem? (i := 61) rfl), rfl⟩
set_option maxRecDepth 100000 in
theorem mw_833 : Cond.methodLink RL 74 yX6_undo ∈ gw_all := List.mem_filter.mpr ⟨mt_4 (List.mem_of_getElem? (i := 62) rfl), rfl⟩
set_option maxRecDepth 100000 in
theorem mw_834 : Cond.instanceMethod yX6_undo ∈ gw_all := List.mem_filter.mpr ⟨mt_4 (List.mem_of_getElem? (i := 63) rfl), rfl⟩
set_option maxRecDepth 100000 in
theorem mw_835 : Cond.selects RX6 yX6_undo yX6_undo ∈ gw_all := List.mem_filter.mpr ⟨mt_4 (List.mem_of_getElem? (i := 64) rfl), rfl⟩
set_option maxRecDepth 100000 in
theorem mw_836 : Cond.code yX6_undo cX6_undo 1 (some .int) ∈ gw_all := List.mem_filter.mpr ⟨mt_4 (List.mem_of_getElem? (i := 65) rfl), rfl⟩
set_option maxRecDepth 100000 in
theorem mw_837 : Cond.methodLink RL 79 yX6_image ∈ gw_all := List.mem_filter.mpr ⟨mt_4 (List.mem_of_getElem? (i := 66) rfl), rfl⟩
set_option maxRecDepth 100000 in
theorem mw_838 : Cond.instanceMethod yX6_image ∈ gw_all := List.mem_filter.mpr ⟨mt_4 (List.mem_of_getElem? (i := 67) rfl), rfl⟩
set_option maxRecDepth 100000 in
theorem mw_839 : Cond.selects RX6 yX6_image yX6_image ∈ gw_all := List.mem_filter.mpr ⟨mt_4 (List.mem_of_getElem? (i := 68) rfl), rfl⟩
set_option maxRecDepth 100000 in
theorem mw_840 : Cond.code yX6_image cX6_image 2 (some .int) ∈ gw_all := List.mem_filter.mpr ⟨mt_4 (List.mem_of_getElem? (i := 69) rfl), rfl⟩
set_option maxRecDepth 100000 in
theorem mw_841 : Cond.methodLink RL 83 yX6_back ∈ gw_all := List.mem_filter.mpr ⟨mt_4 (List.mem_of_getElem? (i := 70) rfl), rfl⟩
set_option maxRecDepth 100000 in
theorem mw_842 : Cond.instanceMethod yX6_back ∈ gw_all := List.mem_filter.mpr ⟨mt_4 (List.mem_of_getElem? (i := 71) rfl), rfl⟩
set_option maxRecDepth 100000 in
theorem mw_843 : Cond.selects RX6 yX6_back yX6_back ∈ gw_all := List.mem_filter.mpr ⟨mt_4 (List.mem_of_getElem? (i := 72) rfl), rfl⟩
set_option maxRecDepth 100000 in
theorem mw_844 : Cond.code yX6_back cX6_back 2 (some .int) ∈ gw_all := List.mem_filter.mpr ⟨mt_4 (List.mem_of_getElem? (i := 73) rfl), rfl⟩
set_option maxRecDepth 100000 in
theorem mw_845 : Cond.methodLink RL 87 yX6_kernel ∈ gw_all := List.mem_filter.mpr ⟨mt_4 (List.mem_of_getElem? (i := 74) rfl), rfl⟩
set_option maxRecDepth 100000 in
theorem mw_846 : Cond.instanceMethod yX6_kernel ∈ gw_all := List.mem_filter.mpr ⟨mt_4 (List.mem_of_getElem? (i := 75) rfl), rfl⟩
set_option maxRecDepth 100000 in
theorem mw_847 : Cond.selects RX6 yX6_kernel yX6_kernel ∈ gw_all := List.mem_filter.mpr ⟨mt_4 (List.mem_of_getElem? (i := 76) rfl), rfl⟩
set_option maxRecDepth 100000 in
theorem mw_848 : Cond.code yX6_kernel cX6_kernel 3 (some .int) ∈ gw_all := List.mem_filter.mpr ⟨mt_4 (List.mem_of_getElem? (i := 77) rfl), rfl⟩
set_option maxRecDepth 100000 in
theorem mw_849 : Cond.constant RX6 223 999999 ∈ gw_all := List.mem_filter.mpr ⟨mt_4 (List.mem_of_getElem? (i := 78) rfl), rfl⟩
set_option maxRecDepth 100000 in
theorem mw_850 : Cond.methodLink RX6 224 yX6_hopOf ∈ gw_all := List.mem_filter.mpr ⟨mt_4 (List.mem_of_getElem? (i := 79) rfl), rfl⟩
set_option maxRecDepth 100000 in
theorem mw_851 : Cond.methodLink RL 91 yX6_hop ∈ gw_all := List.mem_filter.mpr ⟨mt_4 (List.mem_of_getElem? (i := 80) rfl), rfl⟩
set_option maxRecDepth 100000 in
theorem mw_852 : Cond.instanceMethod yX6_hop ∈ gw_all := List.mem_filter.mpr ⟨mt_4 (List.mem_of_getElem? (i := 81) rfl), rfl⟩
set_option maxRecDepth 100000 in
theorem mw_853 : Cond.selects RX6 yX6_hop yX6_hop ∈ gw_all := List.mem_filter.mpr ⟨mt_4 (List.mem_of_getElem? (i := 82) rfl), rfl⟩
set_option maxRecDepth 100000 in
theorem mw_854 : Cond.code yX6_hop cX6_hop 5 (some .int) ∈ gw_all := List.mem_filter.mpr ⟨mt_4 (List.mem_of_getElem? (i := 83) rfl), rfl⟩
set_option maxRecDepth 100000 in
theorem mw_855 : Cond.methodLink RX6 228 yX6_planOf ∈ gw_all := List.mem_filter.mpr ⟨mt_4 (List.mem_of_getElem? (i := 84) rfl), rfl⟩
set_option maxRecDepth 100000 in
theorem mw_857 : Cond.instanceMethod yX6_planOf ∈ gw_all := List.mem_filter.mpr ⟨mt_4 (List.mem_of_getElem? (i := 86) rfl), rfl⟩
set_option maxRecDepth 100000 in
theorem mw_858 : Cond.code yX6_planOf cX6_planOf 5 (some (.object "HopNet$Plan")) ∈ gw_all := List.mem_filter.mpr ⟨mt_4 (List.mem_of_getElem? (i := 87) rfl), rfl⟩
set_option maxRecDepth 100000 in
theorem mw_859 : Cond.constant RX6 232 199999 ∈ gw_all := List.mem_filter.mpr ⟨mt_4 (List.mem_of_getElem? (i := 88) rfl), rfl⟩
set_option maxRecDepth 100000 in
theorem mw_860 : Cond.methodLink RX6 233 yX5_channelBy ∈ gw_all := List.mem_filter.mpr ⟨mt_4 (List.mem_of_getElem? (i := 89) rfl), rfl⟩
set_option maxRecDepth 100000 in
theorem mw_861 : Cond.instanceMethod yX5_channelBy ∈ gw_all := List.mem_filter.mpr ⟨mt_4 (List.mem_of_getElem? (i := 90) rfl), rfl⟩
set_option maxRecDepth 100000 in
theorem mw_862 : Cond.selects RX5 yX5_channelBy yX5_channelBy ∈ gw_all := List.mem_filter.mpr ⟨mt_4 (List.mem_of_getElem? (i := 91) rfl), rfl⟩
set_option maxRecDepth 100000 in
theorem mw_863 : Cond.code yX5_channelBy cX5_channelBy 4 (some .int) ∈ gw_all := List.mem_filter.mpr ⟨mt_4 (List.mem_of_getElem? (i := 92) rfl), rfl⟩
set_option maxRecDepth 100000 in
theorem mw_864 : Cond.methodLink RL 95 yX6_alike ∈ gw_all := List.mem_filter.mpr ⟨mt_4 (List.mem_of_getElem? (i := 93) rfl), rfl⟩
set_option maxRecDepth 100000 in
theorem mw_865 : Cond.instanceMethod yX6_alike ∈ gw_all := List.mem_filter.mpr ⟨mt_4 (List.mem_of_getElem? (i := 94) rfl), rfl⟩
set_option maxRecDepth 100000 in
theorem mw_866 : Cond.selects RX6 yX6_alike yX6_alike ∈ gw_all := List.mem_filter.mpr ⟨mt_4 (List.mem_of_getElem? (i := 95) rfl), rfl⟩
set_option maxRecDepth 100000 in
theorem mw_867 : Cond.code yX6_alike cX6_alike 6 (some .int) ∈ gw_all := List.mem_filter.mpr ⟨mt_4 (List.mem_of_getElem? (i := 96) rfl), rfl⟩
set_option maxRecDepth 100000 in
theorem mw_868 : Cond.methodLink RX6 238 yX3_isLike ∈ gw_all := List.mem_filter.mpr ⟨mt_4 (List.mem_of_getElem? (i := 97) rfl), rfl⟩
set_option maxRecDepth 100000 in
theorem mw_869 : Cond.instanceMethod yX3_isLike ∈ gw_all := List.mem_filter.mpr ⟨mt_4 (List.mem_of_getElem? (i := 98) rfl), rfl⟩
set_option maxRecDepth 100000 in
theorem mw_870 : Cond.selects RX3 yX3_isLike yX3_isLike ∈ gw_all := List.mem_filter.mpr ⟨mt_4 (List.mem_of_getElem? (i := 99) rfl), rfl⟩
set_option maxRecDepth 100000 in
theorem mw_871 : Cond.code yX3_isLike cX3_isLike 2 (some .boolean) ∈ gw_all := List.mem_filter.mpr ⟨mt_4 (List.mem_of_getElem? (i := 100) rfl), rfl⟩
set_option maxRecDepth 100000 in
theorem mw_872 : Cond.methodLink RX6 242 yX6_bit ∈ gw_all := List.mem_filter.mpr ⟨mt_4 (List.mem_of_getElem? (i := 101) rfl), rfl⟩
set_option maxRecDepth 100000 in
theorem mw_873 : Cond.static yX6_bit ∈ gw_all := List.mem_filter.mpr ⟨mt_4 (List.mem_of_getElem? (i := 102) rfl), rfl⟩
set_option maxRecDepth 100000 in
theorem mw_874 : Cond.code yX6_bit cX6_bit 1 (some .int) ∈ gw_all := List.mem_filter.mpr ⟨mt_4 (List.mem_of_getElem? (i := 103) rfl), rfl⟩
set_option maxRecDepth 100000 in
theorem mw_875 : Cond.methodLink RL 99 yX6_mapOf ∈ gw_all := List.mem_filter.mpr ⟨mt_4 (List.mem_of_getElem? (i := 104) rfl), rfl⟩
set_option maxRecDepth 100000 in
theorem mw_876 : Cond.instanceMethod yX6_mapOf ∈ gw_all := List.mem_filter.mpr ⟨mt_4 (List.mem_of_getElem? (i := 105) rfl), rfl⟩
set_option maxRecDepth 100000 in
theorem mw_877 : Cond.selects RX6 yX6_mapOf yX6_mapOf ∈ gw_all := List.mem_filter.mpr ⟨mt_4 (List.mem_of_getElem? (i := 106) rfl), rfl⟩
set_option maxRecDepth 100000 in
theorem mw_878 : Cond.code yX6_mapOf cX6_mapOf 5 (some .int) ∈ gw_all := List.mem_filter.mpr ⟨mt_4 (List.mem_of_getElem? (i := 107) rfl), rfl⟩
set_option maxRecDepth 100000 in
theorem mw_879 : Cond.methodLink RL 103 yX6_meets ∈ gw_all := List.mem_filter.mpr ⟨mt_4 (List.mem_of_getElem? (i := 108) rfl), rfl⟩
set_option maxRecDepth 100000 in
theorem mw_880 : Cond.instanceMethod yX6_meets ∈ gw_all := List.mem_filter.mpr ⟨mt_4 (List.mem_of_getElem? (i := 109) rfl), rfl⟩
set_option maxRecDepth 100000 in
theorem mw_881 : Cond.selects RX6 yX6_meets yX6_meets ∈ gw_all := List.mem_filter.mpr ⟨mt_4 (List.mem_of_getElem? (i := 110) rfl), rfl⟩
set_option maxRecDepth 100000 in
theorem mw_882 : Cond.code yX6_meets cX6_meets 2 (some .int) ∈ gw_all := List.mem_filter.mpr ⟨mt_4 (List.mem_of_getElem? (i := 111) rfl), rfl⟩
set_option maxRecDepth 100000 in
theorem mw_883 : Cond.methodLink RX6 259 yX5_hasBothNets ∈ gw_all := List.mem_filter.mpr ⟨mt_4 (List.mem_of_getElem? (i := 112) rfl), rfl⟩
set_option maxRecDepth 100000 in
theorem mw_884 : Cond.instanceMethod yX5_hasBothNets ∈ gw_all := List.mem_filter.mpr ⟨mt_4 (List.mem_of_getElem? (i := 113) rfl), rfl⟩
set_option maxRecDepth 100000 in
theorem mw_885 : Cond.selects RX5 yX5_hasBothNets yX5_hasBothNets ∈ gw_all := List.mem_filter.mpr ⟨mt_4 (List.mem_of_getElem? (i := 114) rfl), rfl⟩
set_option maxRecDepth 100000 in
theorem mw_886 : Cond.code yX5_hasBothNets cX5_hasBothNets 1 (some .boolean) ∈ gw_all := List.mem_filter.mpr ⟨mt_4 (List.mem_of_getElem? (i := 115) rfl), rfl⟩
set_option maxRecDepth 100000 in
theorem mw_887 : Cond.methodLink RX6 262 yX5_mastersMeet ∈ gw_all := List.mem_filter.mpr ⟨mt_4 (List.mem_of_getElem? (i := 116) rfl), rfl⟩
set_option maxRecDepth 100000 in
theorem mw_888 : Cond.instanceMethod yX5_mastersMeet ∈ gw_all := List.mem_filter.mpr ⟨mt_4 (List.mem_of_getElem? (i := 117) rfl), rfl⟩
set_option maxRecDepth 100000 in
theorem mw_889 : Cond.selects RX5 yX5_mastersMeet yX5_mastersMeet ∈ gw_all := List.mem_filter.mpr ⟨mt_4 (List.mem_of_getElem? (i := 118) rfl), rfl⟩
set_option maxRecDepth 100000 in
theorem mw_890 : Cond.code yX5_mastersMeet cX5_mastersMeet 2 (some .boolean) ∈ gw_all := List.mem_filter.mpr ⟨mt_4 (List.mem_of_getElem? (i := 119) rfl), rfl⟩
set_option maxRecDepth 100000 in
theorem mw_891 : Cond.methodLink RX5 113 yX5_channelBy ∈ gw_all := List.mem_filter.mpr ⟨mt_4 (List.mem_of_getElem? (i := 120) rfl), rfl⟩
set_option maxRecDepth 100000 in
theorem mw_892 : Cond.methodLink RL 107 yX6_used ∈ gw_all := List.mem_filter.mpr ⟨mt_4 (List.mem_of_getElem? (i := 121) rfl), rfl⟩
set_option maxRecDepth 100000 in
theorem mw_893 : Cond.instanceMethod yX6_used ∈ gw_all := List.mem_filter.mpr ⟨mt_4 (List.mem_of_getElem? (i := 122) rfl), rfl⟩
set_option maxRecDepth 100000 in
theorem mw_894 : Cond.selects RX6 yX6_used yX6_used ∈ gw_all := List.mem_filter.mpr ⟨mt_4 (List.mem_of_getElem? (i := 123) rfl), rfl⟩
set_option maxRecDepth 100000 in
theorem mw_895 : Cond.code yX6_used cX6_used 7 (some .int) ∈ gw_all := List.mem_filter.mpr ⟨mt_4 (List.mem_of_getElem? (i := 124) rfl), rfl⟩
set_option maxRecDepth 100000 in
theorem mw_896 : Cond.methodLink RL 111 yX6_bad ∈ gw_all := List.mem_filter.mpr ⟨mt_4 (List.mem_of_getElem? (i := 125) rfl), rfl⟩
set_option maxRecDepth 100000 in
theorem mw_897 : Cond.instanceMethod yX6_bad ∈ gw_all := List.mem_filter.mpr ⟨mt_4 (List.mem_of_getElem? (i := 126) rfl), rfl⟩
set_option maxRecDepth 100000 in
theorem mw_898 : Cond.selects RX6 yX6_bad yX6_bad ∈ gw_all := List.mem_filter.mpr ⟨mt_4 (List.mem_of_getElem? (i := 127) rfl), rfl⟩
set_option maxRecDepth 100000 in
theorem mw_899 : Cond.code yX6_bad cX6_bad 4 (some .int) ∈ gw_all := List.mem_filter.mpr ⟨mt_4 (List.mem_of_getElem? (i := 128) rfl), rfl⟩
set_option maxRecDepth 100000 in
theorem mw_900 : Cond.methodLink RL 115 yX6_sent ∈ gw_all := List.mem_filter.mpr ⟨mt_4 (List.mem_of_getElem? (i := 129) rfl), rfl⟩
set_option maxRecDepth 100000 in
theorem mw_901 : Cond.instanceMethod yX6_sent ∈ gw_all := List.mem_filter.mpr ⟨mt_4 (List.mem_of_getElem? (i := 130) rfl), rfl⟩
set_option maxRecDepth 100000 in
theorem mw_902 : Cond.selects RX6 yX6_sent yX6_sent ∈ gw_all := List.mem_filter.mpr ⟨mt_4 (List.mem_of_getElem? (i := 131) rfl), rfl⟩
set_option maxRecDepth 100000 in
theorem mw_903 : Cond.code yX6_sent cX6_sent 5 (some .int) ∈ gw_all := List.mem_filter.mpr ⟨mt_4 (List.mem_of_getElem? (i := 132) rfl), rfl⟩
set_option maxRecDepth 100000 in
theorem mw_904 : Cond.methodLink RL 119 yX6_link ∈ gw_all := List.mem_filter.mpr ⟨mt_4 (List.mem_of_getElem? (i := 133) rfl), rfl⟩
set_option maxRecDepth 100000 in
theorem mw_905 : Cond.instanceMethod yX6_link ∈ gw_all := List.mem_filter.mpr ⟨mt_4 (List.mem_of_getElem? (i := 134) rfl), rfl⟩
set_option maxRecDepth 100000 in
theorem mw_906 : Cond.selects RX6 yX6_link yX6_link ∈ gw_all := List.mem_filter.mpr ⟨mt_4 (List.mem_of_getElem? (i := 135) rfl), rfl⟩
set_option maxRecDepth 100000 in
theorem mw_907 : Cond.code yX6_link cX6_link 5 (some .int) ∈ gw_all := List.mem_filter.mpr ⟨mt_4 (List.mem_of_getElem? (i := 136) rfl), rfl⟩
set_option maxRecDepth 100000 in
theorem mw_908 : Cond.methodLink RL 123 yX6_hash ∈ gw_all := List.mem_filter.mpr ⟨mt_4 (List.mem_of_getElem? (i := 137) rfl), rfl⟩
set_option maxRecDepth 100000 in
theorem mw_909 : Cond.instanceMethod yX6_hash ∈ gw_all := List.mem_filter.mpr ⟨mt_4 (List.mem_of_getElem? (i := 138) rfl), rfl⟩
set_option maxRecDepth 100000 in
theorem mw_910 : Cond.selects RX6 yX6_hash yX6_hash ∈ gw_all := List.mem_filter.mpr ⟨mt_4 (List.mem_of_getElem? (i := 139) rfl), rfl⟩
set_option maxRecDepth 100000 in
theorem mw_911 : Cond.code yX6_hash cX6_hash 5 (some .int) ∈ gw_all := List.mem_filter.mpr ⟨mt_4 (List.mem_of_getElem? (i := 140) rfl), rfl⟩
set_option maxRecDepth 100000 in
theorem mw_912 : Cond.methodLink RL 127 yX6_reserved ∈ gw_all := List.mem_filter.mpr ⟨mt_4 (List.mem_of_getElem? (i := 141) rfl), rfl⟩
set_option maxRecDepth 100000 in
theorem mw_913 : Cond.instanceMethod yX6_reserved ∈ gw_all := List.mem_filter.mpr ⟨mt_4 (List.mem_of_getElem? (i := 142) rfl), rfl⟩
set_option maxRecDepth 100000 in
theorem mw_914 : Cond.selects RX6 yX6_reserved yX6_reserved ∈ gw_all := List.mem_filter.mpr ⟨mt_4 (List.mem_of_getElem? (i := 143) rfl), rfl⟩
set_option maxRecDepth 100000 in
theorem mw_915 : Cond.code yX6_reserved cX6_reserved 5 (some .int) ∈ gw_all := List.mem_filter.mpr ⟨mt_4 (List.mem_of_getElem? (i := 144) rfl), rfl⟩
set_option maxRecDepth 100000 in
theorem mw_916 : Cond.methodLink RL 131 yX6_isThere ∈ gw_all := List.mem_filter.mpr ⟨mt_4 (List.mem_of_getElem? (i := 145) rfl), rfl⟩
set_option maxRecDepth 100000 in
theorem mw_917 : Cond.instanceMethod yX6_isThere ∈ gw_all := List.mem_filter.mpr ⟨mt_4 (List.mem_of_getElem? (i := 146) rfl), rfl⟩
set_option maxRecDepth 100000 in
theorem mw_918 : Cond.selects RX6 yX6_isThere yX6_isThere ∈ gw_all := List.mem_filter.mpr ⟨mt_4 (List.mem_of_getElem? (i := 147) rfl), rfl⟩
set_option maxRecDepth 100000 in
theorem mw_919 : Cond.code yX6_isThere cX6_isThere 5 (some .int) ∈ gw_all := List.mem_filter.mpr ⟨mt_4 (List.mem_of_getElem? (i := 148) rfl), rfl⟩
set_option maxRecDepth 100000 in
theorem mw_920 : Cond.methodLink RX6 322 yX5_isPresent ∈ gw_all := List.mem_filter.mpr ⟨mt_4 (List.mem_of_getElem? (i := 149) rfl), rfl⟩
set_option maxRecDepth 100000 in
theorem mw_921 : Cond.methodLink RL 135 yX6_odds ∈ gw_all := List.mem_filter.mpr ⟨mt_4 (List.mem_of_getElem? (i := 150) rfl), rfl⟩
set_option maxRecDepth 100000 in
theorem mw_922 : Cond.instanceMethod yX6_odds ∈ gw_all := List.mem_filter.mpr ⟨mt_4 (List.mem_of_getElem? (i := 151) rfl), rfl⟩
set_option maxRecDepth 100000 in
theorem mw_923 : Cond.selects RX6 yX6_odds yX6_odds ∈ gw_all := List.mem_filter.mpr ⟨mt_4 (List.mem_of_getElem? (i := 152) rfl), rfl⟩
set_option maxRecDepth 100000 in
theorem mw_924 : Cond.code yX6_odds cX6_odds 9 (some .int) ∈ gw_all := List.mem_filter.mpr ⟨mt_4 (List.mem_of_getElem? (i := 153) rfl), rfl⟩
set_option maxRecDepth 100000 in
theorem mw_925 : Cond.methodLink RX6 325 yX5_clearOf ∈ gw_all := List.mem_filter.mpr ⟨mt_4 (List.mem_of_getElem? (i := 154) rfl), rfl⟩
set_option maxRecDepth 100000 in
theorem mw_926 : Cond.instanceMethod yX5_clearOf ∈ gw_all := List.mem_filter.mpr ⟨mt_4 (List.mem_of_getElem? (i := 155) rfl), rfl⟩
set_option maxRecDepth 100000 in
theorem mw_927 : Cond.selects RX5 yX5_clearOf yX5_clearOf ∈ gw_all := List.mem_filter.mpr ⟨mt_4 (List.mem_of_getElem? (i := 156) rfl), rfl⟩
set_option maxRecDepth 100000 in
theorem mw_928 : Cond.code yX5_clearOf cX5_clearOf 7 (some .int) ∈ gw_all := List.mem_filter.mpr ⟨mt_4 (List.mem_of_getElem? (i := 157) rfl), rfl⟩
set_option maxRecDepth 100000 in
theorem mw_929 : Cond.methodLink RX6 329 yX6_greatestDivisor ∈ gw_all := List.mem_filter.mpr ⟨mt_4 (List.mem_of_getElem? (i := 158) rfl), rfl⟩
set_option maxRecDepth 100000 in
theorem mw_930 : Cond.static yX6_greatestDivisor ∈ gw_all := List.mem_filter.mpr ⟨mt_4 (List.mem_of_getElem? (i := 159) rfl), rfl⟩
set_option maxRecDepth 100000 in
theorem mw_931 : Cond.code yX6_greatestDivisor cX6_greatestDivisor 6 (some .int) ∈ gw_all := List.mem_filter.mpr ⟨mt_4 (List.mem_of_getElem? (i := 160) rfl), rfl⟩
set_option maxRecDepth 100000 in
theorem mw_932 : Cond.methodLink RL 139 yX6_clashes ∈ gw_all := List.mem_filter.mpr ⟨mt_4 (List.mem_of_getElem? (i := 161) rfl), rfl⟩
set_option maxRecDepth 100000 in
theorem mw_933 : Cond.instanceMethod yX6_clashes ∈ gw_all := List.mem_filter.mpr ⟨mt_4 (List.mem_of_getElem? (i := 162) rfl), rfl⟩
set_option maxRecDepth 100000 in
theorem mw_934 : Cond.selects RX6 yX6_clashes yX6_clashes ∈ gw_all := List.mem_filter.mpr ⟨mt_4 (List.mem_of_getElem? (i := 163) rfl), rfl⟩
set_option maxRecDepth 100000 in
theorem mw_935 : Cond.code yX6_clashes cX6_clashes 4 (some .int) ∈ gw_all := List.mem_filter.mpr ⟨mt_4 (List.mem_of_getElem? (i := 164) rfl), rfl⟩
set_option maxRecDepth 100000 in
theorem mw_936 : Cond.methodLink RL 143 yX6_bestOffset ∈ gw_all := List.mem_filter.mpr ⟨mt_4 (List.mem_of_getElem? (i := 165) rfl), rfl⟩
set_option maxRecDepth 100000 in
theorem mw_937 : Cond.instanceMethod yX6_bestOffset ∈ gw_all := List.mem_filter.mpr ⟨mt_4 (List.mem_of_getElem? (i := 166) rfl), rfl⟩
set_option maxRecDepth 100000 in
theorem mw_938 : Cond.selects RX6 yX6_bestOffset yX6_bestOffset ∈ gw_all := List.mem_filter.mpr ⟨mt_4 (List.mem_of_getElem? (i := 167) rfl), rfl⟩
set_option maxRecDepth 100000 in
theorem mw_939 : Cond.code yX6_bestOffset cX6_bestOffset 6 (some .int) ∈ gw_all := List.mem_filter.mpr ⟨mt_4 (List.mem_of_getElem? (i := 168) rfl), rfl⟩
set_option maxRecDepth 100000 in
theorem mw_940 : Cond.methodLink RX6 332 yX6_noteHops ∈ gw_all := List.mem_filter.mpr ⟨mt_4 (List.mem_of_getElem? (i := 169) rfl), rfl⟩
set_option maxRecDepth 100000 in
theorem mw_942 : Cond.instanceMethod yX6_noteHops ∈ gw_all := List.mem_filter.mpr ⟨mt_4 (List.mem_of_getElem? (i := 171) rfl), rfl⟩
set_option maxRecDepth 100000 in
theorem mw_943 : Cond.code yX6_noteHops cX6_noteHops 4 none ∈ gw_all := List.mem_filter.mpr ⟨mt_4 (List.mem_of_getElem? (i := 172) rfl), rfl⟩
set_option maxRecDepth 100000 in
theorem mw_944 : Cond.methodLink RX6 395 yX5_addressOf ∈ gw_all := List.mem_filter.mpr ⟨mt_4 (List.mem_of_getElem? (i := 173) rfl), rfl⟩
set_option maxRecDepth 100000 in
theorem mw_945 : Cond.methodLink RX6 398 yX6_byMap ∈ gw_all := List.mem_filter.mpr ⟨mt_4 (List.mem_of_getElem? (i := 174) rfl), rfl⟩
set_option maxRecDepth 100000 in
theorem mw_946 : Cond.methodLink RX6 335 yX6_clashesAt ∈ gw_all := List.mem_filter.mpr ⟨mt_4 (List.mem_of_getElem? (i := 175) rfl), rfl⟩
set_option maxRecDepth 100000 in
theorem mw_948 : Cond.instanceMethod yX6_clashesAt ∈ gw_all := List.mem_filter.mpr ⟨mt_4 (List.mem_of_getElem? (i := 177) rfl), rfl⟩
set_option maxRecDepth 100000 in
theorem mw_949 : Cond.code yX6_clashesAt cX6_clashesAt 5 (some .int) ∈ gw_all := List.mem_filter.mpr ⟨mt_4 (List.mem_of_getElem? (i := 178) rfl), rfl⟩
set_option maxRecDepth 100000 in
theorem mw_950 : Cond.methodLink RL 147 yX6_drain ∈ gw_all := List.mem_filter.mpr ⟨mt_4 (List.mem_of_getElem? (i := 179) rfl), rfl⟩
set_option maxRecDepth 100000 in
theorem mw_951 : Cond.instanceMethod yX6_drain ∈ gw_all := List.mem_filter.mpr ⟨mt_4 (List.mem_of_getElem? (i := 180) rfl), rfl⟩
set_option maxRecDepth 100000 in
theorem mw_952 : Cond.selects RX6 yX6_drain yX6_drain ∈ gw_all := List.mem_filter.mpr ⟨mt_4 (List.mem_of_getElem? (i := 181) rfl), rfl⟩
set_option maxRecDepth 100000 in
theorem mw_953 : Cond.code yX6_drain cX6_drain 5 (some .int) ∈ gw_all := List.mem_filter.mpr ⟨mt_4 (List.mem_of_getElem? (i := 182) rfl), rfl⟩
set_option maxRecDepth 100000 in
theorem mw_954 : Cond.methodLink RX6 339 yX5_goOneTurn ∈ gw_all := List.mem_filter.mpr ⟨mt_4 (List.mem_of_getElem? (i := 183) rfl), rfl⟩
set_option maxRecDepth 100000 in
theorem mw_955 : Cond.methodLink RL 151 yX6_would ∈ gw_all := List.mem_filter.mpr ⟨mt_4 (List.mem_of_getElem? (i := 184) rfl), rfl⟩
set_option maxRecDepth 100000 in
theorem mw_956 : Cond.instanceMethod yX6_would ∈ gw_all := List.mem_filter.mpr ⟨mt_4 (List.mem_of_getElem? (i := 185) rfl), rfl⟩
set_option maxRecDepth 100000 in
theorem mw_957 : Cond.selects RX6 yX6_would yX6_would ∈ gw_all := List.mem_filter.mpr ⟨mt_4 (List.mem_of_getElem? (i := 186) rfl), rfl⟩
set_option maxRecDepth 100000 in
theorem mw_958 : Cond.code yX6_would cX6_would 6 (some .int) ∈ gw_all := List.mem_filter.mpr ⟨mt_4 (List.mem_of_getElem? (i := 187) rfl), rfl⟩
set_option maxRecDepth 100000 in
theorem mw_959 : Cond.methodLink RX6 342 yX6_paperWith ∈ gw_all := List.mem_filter.mpr ⟨mt_4 (List.mem_of_getElem? (i := 188) rfl), rfl⟩
set_option maxRecDepth 100000 in
theorem mw_961 : Cond.instanceMethod yX6_paperWith ∈ gw_all := List.mem_filter.mpr ⟨mt_4 (List.mem_of_getElem? (i := 190) rfl), rfl⟩
set_option maxRecDepth 100000 in
theorem mw_962 : Cond.code yX6_paperWith cX6_paperWith 2 (some (.object "HopNet$World")) ∈ gw_all := List.mem_filter.mpr ⟨mt_4 (List.mem_of_getElem? (i := 191) rfl), rfl⟩
set_option maxRecDepth 100000 in
theorem mw_963 : Cond.methodLink RX6 346 yX5_framesMissed ∈ gw_all := List.mem_filter.mpr ⟨mt_4 (List.mem_of_getElem? (i := 192) rfl), rfl⟩
set_option maxRecDepth 100000 in
theorem mw_964 : Cond.instanceMethod yX5_framesMissed ∈ gw_all := List.mem_filter.mpr ⟨mt_4 (List.mem_of_getElem? (i := 193) rfl), rfl⟩
set_option maxRecDepth 100000 in
theorem mw_965 : Cond.selects RX5 yX5_framesMissed yX5_framesMissed ∈ gw_all := List.mem_filter.mpr ⟨mt_4 (List.mem_of_getElem? (i := 194) rfl), rfl⟩
set_option maxRecDepth 100000 in
theorem mw_966 : Cond.code yX5_framesMissed cX5_framesMissed 4 (some .int) ∈ gw_all := List.mem_filter.mpr ⟨mt_4 (List.mem_of_getElem? (i := 195) rfl), rfl⟩
set_option maxRecDepth 100000 in
theorem mw_967 : Cond.methodLink RX6 349 yX5_linksOfOtherMap ∈ gw_all := List.mem_filter.mpr ⟨mt_4 (List.mem_of_getElem? (i := 196) rfl), rfl⟩
set_option maxRecDepth 100000 in
theorem mw_968 : Cond.instanceMethod yX5_linksOfOtherMap ∈ gw_all := List.mem_filter.mpr ⟨mt_4 (List.mem_of_getElem? (i := 197) rfl), rfl⟩
set_option maxRecDepth 100000 in
theorem mw_969 : Cond.selects RX5 yX5_linksOfOtherMap yX5_linksOfOtherMap ∈ gw_all := List.mem_filter.mpr ⟨mt_4 (List.mem_of_getElem? (i := 198) rfl), rfl⟩
set_option maxRecDepth 100000 in
theorem mw_970 : Cond.code yX5_linksOfOtherMap cX5_linksOfOtherMap 4 (some .int) ∈ gw_all := List.mem_filter.mpr ⟨mt_4 (List.mem_of_getElem? (i := 199) rfl), rfl⟩
set_option maxRecDepth 100000 in
theorem mw_971 : Cond.methodLink RL 155 yX6_ready ∈ gw_all := List.mem_filter.mpr ⟨mt_4 (List.mem_of_getElem? (i := 200) rfl), rfl⟩
set_option maxRecDepth 100000 in
theorem mw_972 : Cond.instanceMethod yX6_ready ∈ gw_all := List.mem_filter.mpr ⟨mt_4 (List.mem_of_getElem? (i := 201) rfl), rfl⟩
set_option maxRecDepth 100000 in
theorem mw_973 : Cond.selects RX6 yX6_ready yX6_ready ∈ gw_all := List.mem_filter.mpr ⟨mt_4 (List.mem_of_getElem? (i := 202) rfl), rfl⟩
set_option maxRecDepth 100000 in
theorem mw_974 : Cond.code yX6_ready cX6_ready 5 (some .int) ∈ gw_all := List.mem_filter.mpr ⟨mt_4 (List.mem_of_getElem? (i := 203) rfl), rfl⟩
set_option maxRecDepth 100000 in
theorem mw_975 : Cond.methodLink RX6 352 yX5_isReadyAt ∈ gw_all := List.mem_filter.mpr ⟨mt_4 (List.mem_of_getElem? (i := 204) rfl), rfl⟩
set_option maxRecDepth 100000 in
theorem mw_976 : Cond.methodLink RL 159 yX6_bothReady ∈ gw_all := List.mem_filter.mpr ⟨mt_4 (List.mem_of_getElem? (i := 205) rfl), rfl⟩
set_option maxRecDepth 100000 in
theorem mw_977 : Cond.instanceMethod yX6_bothReady ∈ gw_all := List.mem_filter.mpr ⟨mt_4 (List.mem_of_getElem? (i := 206) rfl), rfl⟩
set_option maxRecDepth 100000 in
theorem mw_978 : Cond.selects RX6 yX6_bothReady yX6_bothReady ∈ gw_all := List.mem_filter.mpr ⟨mt_4 (List.mem_of_getElem? (i := 207) rfl), rfl⟩
set_option maxRecDepth 100000 in
theorem mw_979 : Cond.code yX6_bothReady cX6_bothReady 10 (some .int) ∈ gw_all := List.mem_filter.mpr ⟨mt_4 (List.mem_of_getElem? (i := 208) rfl), rfl⟩
set_option maxRecDepth 100000 in
theorem mw_980 : Cond.methodLink RL 163 yX6_ahead ∈ gw_all := List.mem_filter.mpr ⟨mt_4 (List.mem_of_getElem? (i := 209) rfl), rfl⟩
set_option maxRecDepth 100000 in
theorem mw_981 : Cond.instanceMethod yX6_ahead ∈ gw_all := List.mem_filter.mpr ⟨mt_4 (List.mem_of_getElem? (i := 210) rfl), rfl⟩
set_option maxRecDepth 100000 in
theorem mw_982 : Cond.selects RX6 yX6_ahead yX6_ahead ∈ gw_all := List.mem_filter.mpr ⟨mt_4 (List.mem_of_getElem? (i := 211) rfl), rfl⟩
set_option maxRecDepth 100000 in
theorem mw_983 : Cond.code yX6_ahead cX6_ahead 4 (some .int) ∈ gw_all := List.mem_filter.mpr ⟨mt_4 (List.mem_of_getElem? (i := 212) rfl), rfl⟩
set_option maxRecDepth 100000 in
theorem mw_984 : Cond.methodLink RL 167 yX6_together ∈ gw_all := List.mem_filter.mpr ⟨mt_4 (List.mem_of_getElem? (i := 213) rfl), rfl⟩
set_option maxRecDepth 100000 in
theorem mw_985 : Cond.instanceMethod yX6_together ∈ gw_all := List.mem_filter.mpr ⟨mt_4 (List.mem_of_getElem? (i := 214) rfl), rfl⟩
set_option maxRecDepth 100000 in
theorem mw_986 : Cond.selects RX6 yX6_together yX6_together ∈ gw_all := List.mem_filter.mpr ⟨mt_4 (List.mem_of_getElem? (i := 215) rfl), rfl⟩
set_option maxRecDepth 100000 in
theorem mw_987 : Cond.code yX6_together cX6_together 8 (some .int) ∈ gw_all := List.mem_filter.mpr ⟨mt_4 (List.mem_of_getElem? (i := 216) rfl), rfl⟩
set_option maxRecDepth 100000 in
theorem mw_988 : Cond.methodLink RX6 362 yX0_isDue ∈ gw_all := List.mem_filter.mpr ⟨mt_4 (List.mem_of_getElem? (i := 217) rfl), rfl⟩
set_option maxRecDepth 100000 in
theorem mw_989 : Cond.methodLink RL 171 yX6_ranked ∈ gw_all := List.mem_filter.mpr ⟨mt_4 (List.mem_of_getElem? (i := 218) rfl), rfl⟩
set_option maxRecDepth 100000 in
theorem mw_990 : Cond.instanceMethod yX6_ranked ∈ gw_all := List.mem_filter.mpr ⟨mt_4 (List.mem_of_getElem? (i := 219) rfl), rfl⟩
set_option maxRecDepth 100000 in
theorem mw_991 : Cond.selects RX6 yX6_ranked yX6_ranked ∈ gw_all := List.mem_filter.mpr ⟨mt_4 (List.mem_of_getElem? (i := 220) rfl), rfl⟩
set_option maxRecDepth 100000 in
theorem mw_992 : Cond.code yX6_ranked cX6_ranked 5 (some .int) ∈ gw_all := List.mem_filter.mpr ⟨mt_4 (List.mem_of_getElem? (i := 221) rfl), rfl⟩
set_option maxRecDepth 100000 in
theorem mw_993 : Cond.methodLink RX6 365 yX2_rankOf ∈ gw_all := List.mem_filter.mpr ⟨mt_4 (List.mem_of_getElem? (i := 222) rfl), rfl⟩
set_option maxRecDepth 100000 in
theorem mw_994 : Cond.instanceMethod yX2_rankOf ∈ gw_all := List.mem_filter.mpr ⟨mt_4 (List.mem_of_getElem? (i := 223) rfl), rfl⟩
set_option maxRecDepth 100000 in
theorem mw_995 : Cond.selects RX2 yX2_rankOf yX2_rankOf ∈ gw_all := List.mem_filter.mpr ⟨mt_4 (List.mem_of_getElem? (i := 224) rfl), rfl⟩
set_option maxRecDepth 100000 in
theorem mw_996 : Cond.code yX2_rankOf cX2_rankOf 8 (some .int) ∈ gw_all := List.mem_filter.mpr ⟨mt_4 (List.mem_of_getElem? (i := 225) rfl), rfl⟩
set_option maxRecDepth 100000 in
theorem mw_997 : Cond.methodLink RL 175 yX6_quiet ∈ gw_all := List.mem_filter.mpr ⟨mt_4 (List.mem_of_getElem? (i := 226) rfl), rfl⟩
set_option maxRecDepth 100000 in
theorem mw_998 : Cond.instanceMethod yX6_quiet ∈ gw_all := List.mem_filter.mpr ⟨mt_4 (List.mem_of_getElem? (i := 227) rfl), rfl⟩
set_option maxRecDepth 100000 in
theorem mw_999 : Cond.selects RX6 yX6_quiet yX6_quiet ∈ gw_all := List.mem_filter.mpr ⟨mt_4 (List.mem_of_getElem? (i := 228) rfl), rfl⟩
set_option maxRecDepth 100000 in
theorem mw_1000 : Cond.code yX6_quiet cX6_quiet 6 (some .int) ∈ gw_all := List.mem_filter.mpr ⟨mt_4 (List.mem_of_getElem? (i := 229) rfl), rfl⟩
set_option maxRecDepth 100000 in
theorem mw_1001 : Cond.methodLink RL 179 yX6_bestShare ∈ gw_all := List.mem_filter.mpr ⟨mt_4 (List.mem_of_getElem? (i := 230) rfl), rfl⟩
set_option maxRecDepth 100000 in
theorem mw_1002 : Cond.instanceMethod yX6_bestShare ∈ gw_all := List.mem_filter.mpr ⟨mt_4 (List.mem_of_getElem? (i := 231) rfl), rfl⟩
set_option maxRecDepth 100000 in
theorem mw_1003 : Cond.selects RX6 yX6_bestShare yX6_bestShare ∈ gw_all := List.mem_filter.mpr ⟨mt_4 (List.mem_of_getElem? (i := 232) rfl), rfl⟩
set_option maxRecDepth 100000 in
theorem mw_1004 : Cond.code yX6_bestShare cX6_bestShare 6 (some .int) ∈ gw_all := List.mem_filter.mpr ⟨mt_4 (List.mem_of_getElem? (i := 233) rfl), rfl⟩
set_option maxRecDepth 100000 in
theorem mw_1005 : Cond.methodLink RL 183 yX6_ofNet ∈ gw_all := List.mem_filter.mpr ⟨mt_4 (List.mem_of_getElem? (i := 234) rfl), rfl⟩
set_option maxRecDepth 100000 in
theorem mw_1006 : Cond.instanceMethod yX6_ofNet ∈ gw_all := List.mem_filter.mpr ⟨mt_4 (List.mem_of_getElem? (i := 235) rfl), rfl⟩
set_option maxRecDepth 100000 in
theorem mw_1007 : Cond.selects RX6 yX6_ofNet yX6_ofNet ∈ gw_all := List.mem_filter.mpr ⟨mt_4 (List.mem_of_getElem? (i := 236) rfl), rfl⟩
set_option maxRecDepth 100000 in
theorem mw_1008 : Cond.code yX6_ofNet cX6_ofNet 4 (some .int) ∈ gw_all := List.mem_filter.mpr ⟨mt_4 (List.mem_of_getElem? (i := 237) rfl), rfl⟩
set_option maxRecDepth 100000 in
theorem mw_1009 : Cond.methodLink RL 187 yX6_count ∈ gw_all := List.mem_filter.mpr ⟨mt_4 (List.mem_of_getElem? (i := 238) rfl), rfl⟩
set_option maxRecDepth 100000 in
theorem mw_1010 : Cond.instanceMethod yX6_count ∈ gw_all := List.mem_filter.mpr ⟨mt_4 (List.mem_of_getElem? (i := 239) rfl), rfl⟩
set_option maxRecDepth 100000 in
theorem mw_1011 : Cond.selects RX6 yX6_count yX6_count ∈ gw_all := List.mem_filter.mpr ⟨mt_5 (List.mem_of_getElem? (i := 0) rfl), rfl⟩
set_option maxRecDepth 100000 in
theorem mw_1012 : Cond.code yX6_count cX6_count 2 (some .int) ∈ gw_all := List.mem_filter.mpr ⟨mt_5 (List.mem_of_getElem? (i := 1) rfl), rfl⟩
set_option maxRecDepth 100000 in
theorem mw_1013 : Cond.methodLink RX6 382 yX5_heardOfAll ∈ gw_all := List.mem_filter.mpr ⟨mt_5 (List.mem_of_getElem? (i := 2) rfl), rfl⟩
set_option maxRecDepth 100000 in
theorem mw_1014 : Cond.instanceMethod yX5_heardOfAll ∈ gw_all := List.mem_filter.mpr ⟨mt_5 (List.mem_of_getElem? (i := 3) rfl), rfl⟩
set_option maxRecDepth 100000 in
theorem mw_1015 : Cond.selects RX5 yX5_heardOfAll yX5_heardOfAll ∈ gw_all := List.mem_filter.mpr ⟨mt_5 (List.mem_of_getElem? (i := 4) rfl), rfl⟩
set_option maxRecDepth 100000 in
theorem mw_1016 : Cond.code yX5_heardOfAll cX5_heardOfAll 4 (some .int) ∈ gw_all := List.mem_filter.mpr ⟨mt_5 (List.mem_of_getElem? (i := 5) rfl), rfl⟩
set_option maxRecDepth 100000 in
theorem mw_1017 : Cond.methodLink RL 191 yX6_status ∈ gw_all := List.mem_filter.mpr ⟨mt_5 (List.mem_of_getElem? (i := 6) rfl), rfl⟩
set_option maxRecDepth 100000 in
theorem mw_1018 : Cond.instanceMethod yX6_status ∈ gw_all := List.mem_filter.mpr ⟨mt_5 (List.mem_of_getElem? (i := 7) rfl), rfl⟩
set_option maxRecDepth 100000 in
theorem mw_1019 : Cond.selects RX6 yX6_status yX6_status ∈ gw_all := List.mem_filter.mpr ⟨mt_5 (List.mem_of_getElem? (i := 8) rfl), rfl⟩
set_option maxRecDepth 100000 in
theorem mw_1020 : Cond.code yX6_status cX6_status 1 (some .int) ∈ gw_all := List.mem_filter.mpr ⟨mt_5 (List.mem_of_getElem? (i := 9) rfl), rfl⟩
set_option maxRecDepth 100000 in
theorem mw_1021 : Cond.classLink RL 10 RX7 ∈ gw_all := List.mem_filter.mpr ⟨mt_5 (List.mem_of_getElem? (i := 10) rfl), rfl⟩
set_option maxRecDepth 100000 in
theorem mw_1022 : Cond.instantiable RX7 18 ∈ gw_all := List.mem_filter.mpr ⟨mt_5 (List.mem_of_getElem? (i := 11) rfl), rfl⟩
set_option maxRecDepth 100000 in
theorem mw_1023 : Cond.methodLink RL 12 yX7_init ∈ gw_all := List.mem_filter.mpr ⟨mt_5 (List.mem_of_getElem? (i := 12) rfl), rfl⟩
set_option maxRecDepth 100000 in
theorem mw_1024 : Cond.instanceMethod yX7_init ∈ gw_all := List.mem_filter.mpr ⟨mt_5 (List.mem_of_getElem? (i := 13) rfl), rfl⟩
set_option maxRecDepth 100000 in
theorem mw_1025 : Cond.code yX7_init cX7_init 1 none ∈ gw_all := List.mem_filter.mpr ⟨mt_5 (List.mem_of_getElem? (i := 14) rfl), rfl⟩
set_option maxRecDepth 100000 in
theorem mw_1026 : Cond.methodLink RX7 1 objectInit ∈ gw_all := List.mem_filter.mpr ⟨mt_5 (List.mem_of_getElem? (i := 15) rfl), rfl⟩
set_option maxRecDepth 100000 in
theorem mw_1027 : Cond.fieldLink RX7 50 RX7 "thrown" "I" ∈ gw_all := List.mem_filter.mpr ⟨mt_5 (List.mem_of_getElem? (i := 16) rfl), rfl⟩
set_option maxRecDepth 100000 in
theorem mw_1028 : Cond.fieldLink RX7 54 RX7 "status" "I" ∈ gw_all := List.mem_filter.mpr ⟨mt_5 (List.mem_of_getElem? (i := 17) rfl), rfl⟩
set_option maxRecDepth 100000 in
theorem mw_1029 : Cond.fieldLink RX7 7 RX7 "refusals" "[I" ∈ gw_all := List.mem_filter.mpr ⟨mt_5 (List.mem_of_getElem? (i := 18) rfl), rfl⟩
set_option maxRecDepth 100000 in
theorem mw_1030 : Cond.fieldLink RX7 13 RX7 "row" "[I" ∈ gw_all := List.mem_filter.mpr ⟨mt_5 (List.mem_of_getElem? (i := 19) rfl), rfl⟩
set_option maxRecDepth 100000 in
theorem mw_1031 : Cond.fieldLink RX7 16 RX7 "undos" "[I" ∈ gw_all := List.mem_filter.mpr ⟨mt_5 (List.mem_of_getElem? (i := 20) rfl), rfl⟩
set_option maxRecDepth 100000 in
theorem mw_1032 : Cond.fieldLink RX7 19 RX7 "sorts" "[I" ∈ gw_all := List.mem_filter.mpr ⟨mt_5 (List.mem_of_getElem? (i := 21) rfl), rfl⟩
set_option maxRecDepth 100000 in
theorem mw_1033 : Cond.fieldLink RX7 57 RX7 "nUndo" "I" ∈ gw_all := List.mem_filter.mpr ⟨mt_5 (List.mem_of_getElem? (i := 22) rfl), rfl⟩
set_option maxRecDepth 100000 in
theorem mw_1034 : Cond.fieldLink RX7 22 RX7 "images" "[I" ∈ gw_all := List.mem_filter.mpr ⟨mt_5 (List.mem_of_getElem? (i := 23) rfl), rfl⟩
set_option maxRecDepth 100000 in
theorem mw_1035 : Cond.fieldLink RX7 25 RX7 "isKept" "[Z" ∈ gw_all := List.mem_filter.mpr ⟨mt_5 (List.mem_of_getElem? (i := 24) rfl), rfl⟩
set_option maxRecDepth 100000 in
theorem mw_1036 : Cond.fieldLink RX7 29 RX7 "ahead" "[I" ∈ gw_all := List.mem_filter.mpr ⟨mt_5 (List.mem_of_getElem? (i := 25) rfl), rfl⟩
set_option maxRecDepth 100000 in
theorem mw_1037 : Cond.fieldLink RX7 32 RX7 "chosen" "[I" ∈ gw_all := List.mem_filter.mpr ⟨mt_5 (List.mem_of_getElem? (i := 26) rfl), rfl⟩
set_option maxRecDepth 100000 in
theorem mw_1038 : Cond.fieldLink RX7 35 RX7 "channel" "[I" ∈ gw_all := List.mem_filter.mpr ⟨mt_5 (List.mem_of_getElem? (i := 27) rfl), rfl⟩
set_option maxRecDepth 100000 in
theorem mw_1039 : Cond.fieldLink RX7 38 RX7 "firstChannel" "[I" ∈ gw_all := List.mem_filter.mpr ⟨mt_5 (List.mem_of_getElem? (i := 28) rfl), rfl⟩
set_option maxRecDepth 100000 in
theorem mw_1040 : Cond.fieldLink RX7 41 RX7 "sentNumber" "[Z" ∈ gw_all := List.mem_filter.mpr ⟨mt_5 (List.mem_of_getElem? (i := 29) rfl), rfl⟩
set_option maxRecDepth 100000 in
theorem mw_1041 : Cond.fieldLink RX7 44 RX7 "sentMap" "[Z" ∈ gw_all := List.mem_filter.mpr ⟨mt_5 (List.mem_of_getElem? (i := 30) rfl), rfl⟩
set_option maxRecDepth 100000 in
theorem mw_1042 : Cond.fieldLink RX7 47 RX7 "isHeard" "[Z" ∈ gw_all := List.mem_filter.mpr ⟨mt_5 (List.mem_of_getElem? (i := 31) rfl), rfl⟩
set_option maxRecDepth 100000 in
theorem mw_1043 : Cond.fieldLink RX7 189 RX7 "heardMany" "I" ∈ gw_all := List.mem_filter.mpr ⟨mt_5 (List.mem_of_getElem? (i := 32) rfl), rfl⟩
set_option maxRecDepth 100000 in
theorem mw_1044 : Cond.fieldLink RX7 233 RX7 "missedMany" "I" ∈ gw_all := List.mem_filter.mpr ⟨mt_5 (List.mem_of_getElem? (i := 33) rfl), rfl⟩
set_option maxRecDepth 100000 in
theorem mw_1045 : Cond.lays RX7 RX7 "thrown" "I" ∈ gw_all := List.mem_filter.mpr ⟨mt_5 (List.mem_of_getElem? (i := 34) rfl), rfl⟩
set_option maxRecDepth 100000 in
theorem mw_1047 : Cond.lays RX7 RX7 "status" "I" ∈ gw_all := List.mem_filter.mpr ⟨mt_5 (List.mem_of_getElem? (i := 36) rfl), rfl⟩
set_option maxRecDepth 100000 in
theorem mw_1049 : Cond.laysFinal RX7 RX7 "refusals" "[I" ∈ gw_all := List.mem_filter.mpr ⟨mt_5 (List.mem_of_getElem? (i := 38) rfl), rfl⟩
set_option maxRecDepth 100000 in
theorem mw_1051 : Cond.laysFinal RX7 RX7 "row" "[I" ∈ gw_all := List.mem_filter.mpr ⟨mt_5 (List.mem_of_getElem? (i := 40) rfl), rfl⟩
set_option maxRecDepth 100000 in
theorem mw_1053 : Cond.laysFinal RX7 RX7 "undos" "[I" ∈ gw_all := List.mem_filter.mpr ⟨mt_5 (List.mem_of_getElem? (i := 42) rfl), rfl⟩
set_option maxRecDepth 100000 in
theorem mw_1055 : Cond.laysFinal RX7 RX7 "sorts" "[I" ∈ gw_all := List.mem_filter.mpr ⟨mt_5 (List.mem_of_getElem? (i := 44) rfl), rfl⟩
set_option maxRecDepth 100000 in
theorem mw_1057 : Cond.lays RX7 RX7 "nUndo" "I" ∈ gw_all := List.mem_filter.mpr ⟨mt_5 (List.mem_of_getElem? (i := 46) rfl), rfl⟩
set_option maxRecDepth 100000 in
theorem mw_1059 : Cond.laysFinal RX7 RX7 "images" "[I" ∈ gw_all := List.mem_filter.mpr ⟨mt_5 (List.mem_of_getElem? (i := 48) rfl), rfl⟩
set_option maxRecDepth 100000 in
theorem mw_1061 : Cond.laysFinal RX7 RX7 "isKept" "[Z" ∈ gw_all := List.mem_filter.mpr ⟨mt_5 (List.mem_of_getElem? (i := 50) rfl), rfl⟩
set_option maxRecDepth 100000 in
theorem mw_1063 : Cond.laysFinal RX7 RX7 "ahead" "[I" ∈ gw_all := List.mem_filter.mpr ⟨mt_5 (List.mem_of_getElem? (i := 52) rfl), rfl⟩
set_option maxRecDepth 100000 in
theorem mw_1065 : Cond.laysFinal RX7 RX7 "chosen" "[I" ∈ gw_all := List.mem_filter.mpr ⟨mt_5 (List.mem_of_getElem? (i := 54) rfl), rfl⟩
set_option maxRecDepth 100000 in
theorem mw_1067 : Cond.laysFinal RX7 RX7 "channel" "[I" ∈ gw_all := List.mem_filter.mpr ⟨mt_5 (List.mem_of_getElem? (i := 56) rfl), rfl⟩
set_option maxRecDepth 100000 in
theorem mw_1069 : Cond.laysFinal RX7 RX7 "firstChannel" "[I" ∈ gw_all := List.mem_filter.mpr ⟨mt_5 (List.mem_of_getElem? (i := 58) rfl), rfl⟩
set_option maxRecDepth 100000 in
theorem mw_1071 : Cond.laysFinal RX7 RX7 "sentNumber" "[Z" ∈ gw_all := List.mem_filter.mpr ⟨mt_5 (List.mem_of_getElem? (i := 60) rfl), rfl⟩
set_option maxRecDepth 100000 in
theorem mw_1073 : Cond.laysFinal RX7 RX7 "sentMap" "[Z" ∈ gw_all := List.mem_filter.mpr ⟨mt_5 (List.mem_of_getElem? (i := 62) rfl), rfl⟩
set_option maxRecDepth 100000 in
theorem mw_1075 : Cond.laysFinal RX7 RX7 "isHeard" "[Z" ∈ gw_all := List.mem_filter.mpr ⟨mt_5 (List.mem_of_getElem? (i := 64) rfl), rfl⟩
set_option maxRecDepth 100000 in
theorem mw_1077 : Cond.lays RX7 RX7 "heardMany" "I" ∈ gw_all := List.mem_filter.mpr ⟨mt_5 (List.mem_of_getElem? (i := 66) rfl), rfl⟩
set_option maxRecDepth 100000 in
theorem mw_1079 : Cond.lays RX7 RX7 "missedMany" "I" ∈ gw_all := List.mem_filter.mpr ⟨mt_5 (List.mem_of_getElem? (i := 68) rfl), rfl⟩
set_option maxRecDepth 100000 in
theorem mw_1082 : Cond.methodLink RL 78 yX7_undo ∈ gw_all := List.mem_filter.mpr ⟨mt_5 (List.mem_of_getElem? (i := 71) rfl), rfl⟩
set_option maxRecDepth 100000 in
theorem mw_1083 : Cond.instanceMethod yX7_undo ∈ gw_all := List.mem_filter.mpr ⟨mt_5 (List.mem_of_getElem? (i := 72) rfl), rfl⟩
set_option maxRecDepth 100000 in
theorem mw_1084 : Cond.selects RX7 yX7_undo yX7_undo ∈ gw_all := List.mem_filter.mpr ⟨mt_5 (List.mem_of_getElem? (i := 73) rfl), rfl⟩
set_option maxRecDepth 100000 in
theorem mw_1085 : Cond.code yX7_undo cX7_undo 1 (some .int) ∈ gw_all := List.mem_filter.mpr ⟨mt_5 (List.mem_of_getElem? (i := 74) rfl), rfl⟩
set_option maxRecDepth 100000 in
theorem mw_1086 : Cond.methodLink RX7 64 yX7_refuse ∈ gw_all := List.mem_filter.mpr ⟨mt_5 (List.mem_of_getElem? (i := 75) rfl), rfl⟩
set_option maxRecDepth 100000 in
theorem mw_1088 : Cond.instanceMethod yX7_refuse ∈ gw_all := List.mem_filter.mpr ⟨mt_5 (List.mem_of_getElem? (i := 77) rfl), rfl⟩
set_option maxRecDepth 100000 in
theorem mw_1089 : Cond.code yX7_refuse cX7_refuse 2 (some .int) ∈ gw_all := List.mem_filter.mpr ⟨mt_5 (List.mem_of_getElem? (i := 78) rfl), rfl⟩
set_option maxRecDepth 100000 in
theorem mw_1090 : Cond.methodLink RX7 60 yX7_copy ∈ gw_all := List.mem_filter.mpr ⟨mt_5 (List.mem_of_getElem? (i := 79) rfl), rfl⟩
set_option maxRecDepth 100000 in
theorem mw_1091 : Cond.static yX7_copy ∈ gw_all := List.mem_filter.mpr ⟨mt_5 (List.mem_of_getElem? (i := 80) rfl), rfl⟩
set_option maxRecDepth 100000 in
theorem mw_1092 : Cond.code yX7_copy cX7_copy 5 none ∈ gw_all := List.mem_filter.mpr ⟨mt_5 (List.mem_of_getElem? (i := 81) rfl), rfl⟩
set_option maxRecDepth 100000 in
theorem mw_1093 : Cond.methodLink RX7 68 yX7_tell ∈ gw_all := List.mem_filter.mpr ⟨mt_5 (List.mem_of_getElem? (i := 82) rfl), rfl⟩
set_option maxRecDepth 100000 in
theorem mw_1095 : Cond.instanceMethod yX7_tell ∈ gw_all := List.mem_filter.mpr ⟨mt_5 (List.mem_of_getElem? (i := 84) rfl), rfl⟩
set_option maxRecDepth 100000 in
theorem mw_1096 : Cond.code yX7_tell cX7_tell 2 (some .int) ∈ gw_all := List.mem_filter.mpr ⟨mt_5 (List.mem_of_getElem? (i := 85) rfl), rfl⟩
set_option maxRecDepth 100000 in
theorem mw_1097 : Cond.methodLink RL 82 yX7_image ∈ gw_all := List.mem_filter.mpr ⟨mt_5 (List.mem_of_getElem? (i := 86) rfl), rfl⟩
set_option maxRecDepth 100000 in
theorem mw_1098 : Cond.instanceMethod yX7_image ∈ gw_all := List.mem_filter.mpr ⟨mt_5 (List.mem_of_getElem? (i := 87) rfl), rfl⟩
set_option maxRecDepth 100000 in
theorem mw_1099 : Cond.selects RX7 yX7_image yX7_image ∈ gw_all := List.mem_filter.mpr ⟨mt_5 (List.mem_of_getElem? (i := 88) rfl), rfl⟩
set_option maxRecDepth 100000 in
theorem mw_1100 : Cond.code yX7_image cX7_image 2 (some .int) ∈ gw_all := List.mem_filter.mpr ⟨mt_5 (List.mem_of_getElem? (i := 89) rfl), rfl⟩
set_option maxRecDepth 100000 in
theorem mw_1101 : Cond.methodLink RX7 71 yX7_in ∈ gw_all := List.mem_filter.mpr ⟨mt_5 (List.mem_of_getElem? (i := 90) rfl), rfl⟩
set_option maxRecDepth 100000 in
theorem mw_1102 : Cond.static yX7_in ∈ gw_all := List.mem_filter.mpr ⟨mt_5 (List.mem_of_getElem? (i := 91) rfl), rfl⟩
set_option maxRecDepth 100000 in
theorem mw_1103 : Cond.code yX7_in cX7_in 6 (some .boolean) ∈ gw_all := List.mem_filter.mpr ⟨mt_5 (List.mem_of_getElem? (i := 92) rfl), rfl⟩
set_option maxRecDepth 100000 in
theorem mw_1104 : Cond.methodLink RL 86 yX7_back ∈ gw_all := List.mem_filter.mpr ⟨mt_5 (List.mem_of_getElem? (i := 93) rfl), rfl⟩
set_option maxRecDepth 100000 in
theorem mw_1105 : Cond.instanceMethod yX7_back ∈ gw_all := List.mem_filter.mpr ⟨mt_5 (List.mem_of_getElem? (i := 94) rfl), rfl⟩
set_option maxRecDepth 100000 in
theorem mw_1106 : Cond.selects RX7 yX7_back yX7_back ∈ gw_all := List.mem_filter.mpr ⟨mt_5 (List.mem_of_getElem? (i := 95) rfl), rfl⟩
set_option maxRecDepth 100000 in
theorem mw_1107 : Cond.code yX7_back cX7_back 2 (some .int) ∈ gw_all := List.mem_filter.mpr ⟨mt_5 (List.mem_of_getElem? (i := 96) rfl), rfl⟩
set_option maxRecDepth 100000 in
theorem mw_1108 : Cond.methodLink RL 90 yX7_kernel ∈ gw_all := List.mem_filter.mpr ⟨mt_5 (List.mem_of_getElem? (i := 97) rfl), rfl⟩
set_option maxRecDepth 100000 in
theorem mw_1109 : Cond.instanceMethod yX7_kernel ∈ gw_all := List.mem_filter.mpr ⟨mt_5 (List.mem_of_getElem? (i := 98) rfl), rfl⟩
set_option maxRecDepth 100000 in
theorem mw_1110 : Cond.selects RX7 yX7_kernel yX7_kernel ∈ gw_all := List.mem_filter.mpr ⟨mt_5 (List.mem_of_getElem? (i := 99) rfl), rfl⟩
set_option maxRecDepth 100000 in
theorem mw_1111 : Cond.code yX7_kernel cX7_kernel 3 (some .int) ∈ gw_all := List.mem_filter.mpr ⟨mt_5 (List.mem_of_getElem? (i := 100) rfl), rfl⟩
set_option maxRecDepth 100000 in
theorem mw_1112 : Cond.constantLong RX7 102 268435455 ∈ gw_all := List.mem_filter.mpr ⟨mt_5 (List.mem_of_getElem? (i := 101) rfl), rfl⟩
set_option maxRecDepth 100000 in
theorem mw_1113 : Cond.constantLong RX7 104 999999 ∈ gw_all := List.mem_filter.mpr ⟨mt_5 (List.mem_of_getElem? (i := 102) rfl), rfl⟩
set_option maxRecDepth 100000 in
theorem mw_1114 : Cond.methodLink RX7 96 yX7_kernelOf ∈ gw_all := List.mem_filter.mpr ⟨mt_5 (List.mem_of_getElem? (i := 103) rfl), rfl⟩
set_option maxRecDepth 100000 in
theorem mw_1115 : Cond.static yX7_kernelOf ∈ gw_all := List.mem_filter.mpr ⟨mt_5 (List.mem_of_getElem? (i := 104) rfl), rfl⟩
set_option maxRecDepth 100000 in
theorem mw_1116 : Cond.code yX7_kernelOf cX7_kernelOf 8 (some .int) ∈ gw_all := List.mem_filter.mpr ⟨mt_5 (List.mem_of_getElem? (i := 105) rfl), rfl⟩
set_option maxRecDepth 100000 in
theorem mw_1117 : Cond.fieldLink RX7 90 RX7 "PAIRS" "[I" ∈ gw_all := List.mem_filter.mpr ⟨mt_5 (List.mem_of_getElem? (i := 106) rfl), rfl⟩
set_option maxRecDepth 100000 in
theorem nw_1118 : Cond.laysStatic RX7 "PAIRS" "[I" ∈ lw_tbl := mt_5 (List.mem_of_getElem? (i := 107) rfl)
set_option maxRecDepth 100000 in
theorem mw_1119 : Cond.methodLink RL 94 yX7_hop ∈ gw_all := List.mem_filter.mpr ⟨mt_5 (List.mem_of_getElem? (i := 108) rfl), rfl⟩
set_option maxRecDepth 100000 in
theorem mw_1120 : Cond.instanceMethod yX7_hop ∈ gw_all := List.mem_filter.mpr ⟨mt_5 (List.mem_of_getElem? (i := 109) rfl), rfl⟩
set_option maxRecDepth 100000 in
theorem mw_1121 : Cond.selects RX7 yX7_hop yX7_hop ∈ gw_all := List.mem_filter.mpr ⟨mt_5 (List.mem_of_getElem? (i := 110) rfl), rfl⟩
set_option maxRecDepth 100000 in
theorem mw_1122 : Cond.code yX7_hop cX7_hop 4 (some .int) ∈ gw_all := List.mem_filter.mpr ⟨mt_5 (List.mem_of_getElem? (i := 111) rfl), rfl⟩
set_option maxRecDepth 100000 in
theorem mw_1123 : Cond.methodLink RX7 78 yX7_isNet ∈ gw_all := List.mem_filter.mpr ⟨mt_5 (List.mem_of_getElem? (i := 112) rfl), rfl⟩
set_option maxRecDepth 100000 in
theorem mw_1125 : Cond.instanceMethod yX7_isNet ∈ gw_all := List.mem_filter.mpr ⟨mt_5 (List.mem_of_getElem? (i := 114) rfl), rfl⟩
set_option maxRecDepth 100000 in
theorem mw_1126 : Cond.code yX7_isNet cX7_isNet 2 (some .boolean) ∈ gw_all := List.mem_filter.mpr ⟨mt_5 (List.mem_of_getElem? (i := 115) rfl), rfl⟩
set_option maxRecDepth 100000 in
theorem mw_1127 : Cond.methodLink RX7 75 yX7_netAt ∈ gw_all := List.mem_filter.mpr ⟨mt_5 (List.mem_of_getElem? (i := 116) rfl), rfl⟩
set_option maxRecDepth 100000 in
theorem mw_1128 : Cond.static yX7_netAt ∈ gw_all := List.mem_filter.mpr ⟨mt_5 (List.mem_of_getElem? (i := 117) rfl), rfl⟩
set_option maxRecDepth 100000 in
theorem mw_1129 : Cond.code yX7_netAt cX7_netAt 1 (some .int) ∈ gw_all := List.mem_filter.mpr ⟨mt_5 (List.mem_of_getElem? (i := 118) rfl), rfl⟩
set_option maxRecDepth 100000 in
theorem mw_1130 : Cond.methodLink RX7 106 yX7_isLink ∈ gw_all := List.mem_filter.mpr ⟨mt_5 (List.mem_of_getElem? (i := 119) rfl), rfl⟩
set_option maxRecDepth 100000 in
theorem mw_1132 : Cond.instanceMethod yX7_isLink ∈ gw_all := List.mem_filter.mpr ⟨mt_5 (List.mem_of_getElem? (i := 121) rfl), rfl⟩
set_option maxRecDepth 100000 in
theorem mw_1133 : Cond.code yX7_isLink cX7_isLink 3 (some .boolean) ∈ gw_all := List.mem_filter.mpr ⟨mt_5 (List.mem_of_getElem? (i := 122) rfl), rfl⟩
set_option maxRecDepth 100000 in
theorem mw_1134 : Cond.constantLong RX7 109 199999 ∈ gw_all := List.mem_filter.mpr ⟨mt_5 (List.mem_of_getElem? (i := 123) rfl), rfl⟩
set_option maxRecDepth 100000 in
theorem mw_1135 : Cond.methodLink RX7 111 yX7_mapHeld ∈ gw_all := List.mem_filter.mpr ⟨mt_5 (List.mem_of_getElem? (i := 124) rfl), rfl⟩
set_option maxRecDepth 100000 in
theorem mw_1137 : Cond.instanceMethod yX7_mapHeld ∈ gw_all := List.mem_filter.mpr ⟨mt_5 (List.mem_of_getElem? (i := 126) rfl), rfl⟩
set_option maxRecDepth 100000 in
theorem mw_1138 : Cond.code yX7_mapHeld cX7_mapHeld 3 (some .int) ∈ gw_all := List.mem_filter.mpr ⟨mt_5 (List.mem_of_getElem? (i := 127) rfl), rfl⟩
set_option maxRecDepth 100000 in
theorem mw_1139 : Cond.methodLink RX7 82 yX7_linkAt ∈ gw_all := List.mem_filter.mpr ⟨mt_5 (List.mem_of_getElem? (i := 128) rfl), rfl⟩
set_option maxRecDepth 100000 in
theorem mw_1140 : Cond.static yX7_linkAt ∈ gw_all := List.mem_filter.mpr ⟨mt_5 (List.mem_of_getElem? (i := 129) rfl), rfl⟩
set_option maxRecDepth 100000 in
theorem mw_1141 : Cond.code yX7_linkAt cX7_linkAt 2 (some .int) ∈ gw_all := List.mem_filter.mpr ⟨mt_5 (List.mem_of_getElem? (i := 130) rfl), rfl⟩
set_option maxRecDepth 100000 in
theorem mw_1142 : Cond.methodLink RX7 114 yX7_hopOf ∈ gw_all := List.mem_filter.mpr ⟨mt_5 (List.mem_of_getElem? (i := 131) rfl), rfl⟩
set_option maxRecDepth 100000 in
theorem mw_1144 : Cond.instanceMethod yX7_hopOf ∈ gw_all := List.mem_filter.mpr ⟨mt_5 (List.mem_of_getElem? (i := 133) rfl), rfl⟩
set_option maxRecDepth 100000 in
theorem mw_1145 : Cond.code yX7_hopOf cX7_hopOf 5 (some .int) ∈ gw_all := List.mem_filter.mpr ⟨mt_5 (List.mem_of_getElem? (i := 134) rfl), rfl⟩
set_option maxRecDepth 100000 in
theorem mw_1146 : Cond.methodLink RX7 99 yX7_byMap ∈ gw_all := List.mem_filter.mpr ⟨mt_5 (List.mem_of_getElem? (i := 135) rfl), rfl⟩
set_option maxRecDepth 100000 in
theorem mw_1147 : Cond.static yX7_byMap ∈ gw_all := List.mem_filter.mpr ⟨mt_5 (List.mem_of_getElem? (i := 136) rfl), rfl⟩
set_option maxRecDepth 100000 in
theorem mw_1148 : Cond.code yX7_byMap cX7_byMap 4 (some .int) ∈ gw_all := List.mem_filter.mpr ⟨mt_5 (List.mem_of_getElem? (i := 137) rfl), rfl⟩
set_option maxRecDepth 100000 in
theorem mw_1149 : Cond.methodLink RX7 93 yX7_bits ∈ gw_all := List.mem_filter.mpr ⟨mt_5 (List.mem_of_getElem? (i := 138) rfl), rfl⟩
set_option maxRecDepth 100000 in
theorem mw_1150 : Cond.static yX7_bits ∈ gw_all := List.mem_filter.mpr ⟨mt_5 (List.mem_of_getElem? (i := 139) rfl), rfl⟩
set_option maxRecDepth 100000 in
theorem mw_1151 : Cond.code yX7_bits cX7_bits 3 (some .int) ∈ gw_all := List.mem_filter.mpr ⟨mt_5 (List.mem_of_getElem? (i := 140) rfl), rfl⟩
set_option maxRecDepth 100000 in
theorem mw_1152 : Cond.methodLink RL 17 yX7_radio ∈ gw_all := List.mem_filter.mpr ⟨mt_5 (List.mem_of_getElem? (i := 141) rfl), rfl⟩
set_option maxRecDepth 100000 in
theorem mw_1153 : Cond.instanceMethod yX7_radio ∈ gw_all := List.mem_filter.mpr ⟨mt_5 (List.mem_of_getElem? (i := 142) rfl), rfl⟩
set_option maxRecDepth 100000 in
theorem mw_1154 : Cond.selects RX7 yX7_radio yX7_radio ∈ gw_all := List.mem_filter.mpr ⟨mt_5 (List.mem_of_getElem? (i := 143) rfl), rfl⟩
set_option maxRecDepth 100000 in
theorem mw_1155 : Cond.code yX7_radio cX7_radio 3 (some .int) ∈ gw_all := List.mem_filter.mpr ⟨mt_5 (List.mem_of_getElem? (i := 144) rfl), rfl⟩
set_option maxRecDepth 100000 in
theorem mw_1156 : Cond.methodLink RX7 118 yX7_remember ∈ gw_all := List.mem_filter.mpr ⟨mt_5 (List.mem_of_getElem? (i := 145) rfl), rfl⟩
set_option maxRecDepth 100000 in
theorem mw_1158 : Cond.instanceMethod yX7_remember ∈ gw_all := List.mem_filter.mpr ⟨mt_5 (List.mem_of_getElem? (i := 147) rfl), rfl⟩
set_option maxRecDepth 100000 in
theorem mw_1159 : Cond.code yX7_remember cX7_remember 3 none ∈ gw_all := List.mem_filter.mpr ⟨mt_5 (List.mem_of_getElem? (i := 148) rfl), rfl⟩
set_option maxRecDepth 100000 in
theorem mw_1160 : Cond.methodLink RL 22 yX7_net ∈ gw_all := List.mem_filter.mpr ⟨mt_5 (List.mem_of_getElem? (i := 149) rfl), rfl⟩
set_option maxRecDepth 100000 in
theorem mw_1161 : Cond.instanceMethod yX7_net ∈ gw_all := List.mem_filter.mpr ⟨mt_5 (List.mem_of_getElem? (i := 150) rfl), rfl⟩
set_option maxRecDepth 100000 in
theorem mw_1162 : Cond.selects RX7 yX7_net yX7_net ∈ gw_all := List.mem_filter.mpr ⟨mt_5 (List.mem_of_getElem? (i := 151) rfl), rfl⟩
set_option maxRecDepth 100000 in
theorem mw_1163 : Cond.code yX7_net cX7_net 6 (some .int) ∈ gw_all := List.mem_filter.mpr ⟨mt_5 (List.mem_of_getElem? (i := 152) rfl), rfl⟩
set_option maxRecDepth 100000 in
theorem mw_1164 : Cond.constantLong RX7 122 65535 ∈ gw_all := List.mem_filter.mpr ⟨mt_5 (List.mem_of_getElem? (i := 153) rfl), rfl⟩
set_option maxRecDepth 100000 in
theorem mw_1165 : Cond.methodLink RX7 124 yX7_isRadio ∈ gw_all := List.mem_filter.mpr ⟨mt_5 (List.mem_of_getElem? (i := 154) rfl), rfl⟩
set_option maxRecDepth 100000 in
theorem mw_1167 : Cond.instanceMethod yX7_isRadio ∈ gw_all := List.mem_filter.mpr ⟨mt_5 (List.mem_of_getElem? (i := 156) rfl), rfl⟩
set_option maxRecDepth 100000 in
theorem mw_1168 : Cond.code yX7_isRadio cX7_isRadio 2 (some .boolean) ∈ gw_all := List.mem_filter.mpr ⟨mt_5 (List.mem_of_getElem? (i := 157) rfl), rfl⟩
set_option maxRecDepth 100000 in
theorem mw_1169 : Cond.constant RX7 127 8388607 ∈ gw_all := List.mem_filter.mpr ⟨mt_5 (List.mem_of_getElem? (i := 158) rfl), rfl⟩
set_option maxRecDepth 100000 in
theorem mw_1170 : Cond.methodLink RL 27 yX7_join ∈ gw_all := List.mem_filter.mpr ⟨mt_5 (List.mem_of_getElem? (i := 159) rfl), rfl⟩
set_option maxRecDepth 100000 in
theorem mw_1171 : Cond.instanceMethod yX7_join ∈ gw_all := List.mem_filter.mpr ⟨mt_5 (List.mem_of_getElem? (i := 160) rfl), rfl⟩
set_option maxRecDepth 100000 in
theorem mw_1172 : Cond.selects RX7 yX7_join yX7_join ∈ gw_all := List.mem_filter.mpr ⟨mt_5 (List.mem_of_getElem? (i := 161) rfl), rfl⟩
set_option maxRecDepth 100000 in
theorem mw_1173 : Cond.code yX7_join cX7_join 7 (some .int) ∈ gw_all := List.mem_filter.mpr ⟨mt_5 (List.mem_of_getElem? (i := 162) rfl), rfl⟩
set_option maxRecDepth 100000 in
theorem mw_1174 : Cond.methodLink RX7 86 yX7_isIn ∈ gw_all := List.mem_filter.mpr ⟨mt_5 (List.mem_of_getElem? (i := 163) rfl), rfl⟩
set_option maxRecDepth 100000 in
theorem mw_1176 : Cond.instanceMethod yX7_isIn ∈ gw_all := List.mem_filter.mpr ⟨mt_5 (List.mem_of_getElem? (i := 165) rfl), rfl⟩
set_option maxRecDepth 100000 in
theorem mw_1177 : Cond.code yX7_isIn cX7_isIn 5 (some .boolean) ∈ gw_all := List.mem_filter.mpr ⟨mt_5 (List.mem_of_getElem? (i := 166) rfl), rfl⟩
set_option maxRecDepth 100000 in
theorem mw_1178 : Cond.methodLink RL 31 yX7_leave ∈ gw_all := List.mem_filter.mpr ⟨mt_5 (List.mem_of_getElem? (i := 167) rfl), rfl⟩
set_option maxRecDepth 100000 in
theorem mw_1179 : Cond.instanceMethod yX7_leave ∈ gw_all := List.mem_filter.mpr ⟨mt_5 (List.mem_of_getElem? (i := 168) rfl), rfl⟩
set_option maxRecDepth 100000 in
theorem mw_1180 : Cond.selects RX7 yX7_leave yX7_leave ∈ gw_all := List.mem_filter.mpr ⟨mt_5 (List.mem_of_getElem? (i := 169) rfl), rfl⟩
set_option maxRecDepth 100000 in
theorem mw_1181 : Cond.code yX7_leave cX7_leave 5 (some .int) ∈ gw_all := List.mem_filter.mpr ⟨mt_5 (List.mem_of_getElem? (i := 170) rfl), rfl⟩
set_option maxRecDepth 100000 in
theorem mw_1182 : Cond.methodLink RL 35 yX7_noise ∈ gw_all := List.mem_filter.mpr ⟨mt_5 (List.mem_of_getElem? (i := 171) rfl), rfl⟩
set_option maxRecDepth 100000 in
theorem mw_1183 : Cond.instanceMethod yX7_noise ∈ gw_all := List.mem_filter.mpr ⟨mt_5 (List.mem_of_getElem? (i := 172) rfl), rfl⟩
set_option maxRecDepth 100000 in
theorem mw_1184 : Cond.selects RX7 yX7_noise yX7_noise ∈ gw_all := List.mem_filter.mpr ⟨mt_5 (List.mem_of_getElem? (i := 173) rfl), rfl⟩
set_option maxRecDepth 100000 in
theorem mw_1185 : Cond.code yX7_noise cX7_noise 4 (some .int) ∈ gw_all := List.mem_filter.mpr ⟨mt_5 (List.mem_of_getElem? (i := 174) rfl), rfl⟩
set_option maxRecDepth 100000 in
theorem mw_1186 : Cond.constantLong RX7 128 22 ∈ gw_all := List.mem_filter.mpr ⟨mt_5 (List.mem_of_getElem? (i := 175) rfl), rfl⟩
set_option maxRecDepth 100000 in
theorem mw_1187 : Cond.constantLong RX7 130 16 ∈ gw_all := List.mem_filter.mpr ⟨mt_5 (List.mem_of_getElem? (i := 176) rfl), rfl⟩
set_option maxRecDepth 100000 in
theorem mw_1188 : Cond.methodLink RL 39 yX7_terms ∈ gw_all := List.mem_filter.mpr ⟨mt_5 (List.mem_of_getElem? (i := 177) rfl), rfl⟩
set_option maxRecDepth 100000 in
theorem mw_1189 : Cond.instanceMethod yX7_terms ∈ gw_all := List.mem_filter.mpr ⟨mt_5 (List.mem_of_getElem? (i := 178) rfl), rfl⟩
set_option maxRecDepth 100000 in
theorem mw_1190 : Cond.selects RX7 yX7_terms yX7_terms ∈ gw_all := List.mem_filter.mpr ⟨mt_5 (List.mem_of_getElem? (i := 179) rfl), rfl⟩
set_option maxRecDepth 100000 in
theorem mw_1191 : Cond.code yX7_terms cX7_terms 4 (some .int) ∈ gw_all := List.mem_filter.mpr ⟨mt_5 (List.mem_of_getElem? (i := 180) rfl), rfl⟩
set_option maxRecDepth 100000 in
theorem mw_1192 : Cond.constantLong RX7 134 2 ∈ gw_all := List.mem_filter.mpr ⟨mt_5 (List.mem_of_getElem? (i := 181) rfl), rfl⟩
set_option maxRecDepth 100000 in
theorem mw_1193 : Cond.constantLong RX7 136 1000000 ∈ gw_all := List.mem_filter.mpr ⟨mt_5 (List.mem_of_getElem? (i := 182) rfl), rfl⟩
set_option maxRecDepth 100000 in
theorem mw_1194 : Cond.methodLink RX7 138 yX7_isShare ∈ gw_all := List.mem_filter.mpr ⟨mt_5 (List.mem_of_getElem? (i := 183) rfl), rfl⟩
set_option maxRecDepth 100000 in
theorem mw_1195 : Cond.static yX7_isShare ∈ gw_all := List.mem_filter.mpr ⟨mt_5 (List.mem_of_getElem? (i := 184) rfl), rfl⟩
set_option maxRecDepth 100000 in
theorem mw_1196 : Cond.code yX7_isShare cX7_isShare 1 (some .boolean) ∈ gw_all := List.mem_filter.mpr ⟨mt_5 (List.mem_of_getElem? (i := 185) rfl), rfl⟩
set_option maxRecDepth 100000 in
theorem mw_1197 : Cond.constantLong RX7 132 32 ∈ gw_all := List.mem_filter.mpr ⟨mt_5 (List.mem_of_getElem? (i := 186) rfl), rfl⟩
set_option maxRecDepth 100000 in
theorem mw_1198 : Cond.constantLong RX7 141 4 ∈ gw_all := List.mem_filter.mpr ⟨mt_5 (List.mem_of_getElem? (i := 187) rfl), rfl⟩
set_option maxRecDepth 100000 in
theorem mw_1199 : Cond.methodLink RL 44 yX7_put ∈ gw_all := List.mem_filter.mpr ⟨mt_5 (List.mem_of_getElem? (i := 188) rfl), rfl⟩
set_option maxRecDepth 100000 in
theorem mw_1200 : Cond.instanceMethod yX7_put ∈ gw_all := List.mem_filter.mpr ⟨mt_5 (List.mem_of_getElem? (i := 189) rfl), rfl⟩
set_option maxRecDepth 100000 in
theorem mw_1201 : Cond.selects RX7 yX7_put yX7_put ∈ gw_all := List.mem_filter.mpr ⟨mt_5 (List.mem_of_getElem? (i := 190) rfl), rfl⟩
set_option maxRecDepth 100000 in
theorem mw_1202 : Cond.code yX7_put cX7_put 7 (some .int) ∈ gw_all := List.mem_filter.mpr ⟨mt_5 (List.mem_of_getElem? (i := 191) rfl), rfl⟩
set_option maxRecDepth 100000 in
theorem mw_1203 : Cond.constantLong RX7 143 255 ∈ gw_all := List.mem_filter.mpr ⟨mt_5 (List.mem_of_getElem? (i := 192) rfl), rfl⟩
set_option maxRecDepth 100000 in
theorem mw_1204 : Cond.methodLink RX7 145 yX7_comes ∈ gw_all := List.mem_filter.mpr ⟨mt_5 (List.mem_of_getElem? (i := 193) rfl), rfl⟩
set_option maxRecDepth 100000 in
theorem mw_1206 : Cond.instanceMethod yX7_comes ∈ gw_all := List.mem_filter.mpr ⟨mt_5 (List.mem_of_getElem? (i := 195) rfl), rfl⟩
set_option maxRecDepth 100000 in
theorem mw_1207 : Cond.code yX7_comes cX7_comes 5 none ∈ gw_all := List.mem_filter.mpr ⟨mt_5 (List.mem_of_getElem? (i := 196) rfl), rfl⟩
set_option maxRecDepth 100000 in
theorem mw_1208 : Cond.methodLink RL 53 yX7_sniff ∈ gw_all := List.mem_filter.mpr ⟨mt_5 (List.mem_of_getElem? (i := 197) rfl), rfl⟩
set_option maxRecDepth 100000 in
theorem mw_1209 : Cond.instanceMethod yX7_sniff ∈ gw_all := List.mem_filter.mpr ⟨mt_5 (List.mem_of_getElem? (i := 198) rfl), rfl⟩
set_option maxRecDepth 100000 in
theorem mw_1210 : Cond.selects RX7 yX7_sniff yX7_sniff ∈ gw_all := List.mem_filter.mpr ⟨mt_5 (List.mem_of_getElem? (i := 199) rfl), rfl⟩
set_option maxRecDepth 100000 in
theorem mw_1211 : Cond.code yX7_sniff cX7_sniff 7 (some .int) ∈ gw_all := List.mem_filter.mpr ⟨mt_5 (List.mem_of_getElem? (i := 200) rfl), rfl⟩
set_option maxRecDepth 100000 in
theorem mw_1212 : Cond.methodLink RX7 149 yX7_isEven ∈ gw_all := List.mem_filter.mpr ⟨mt_5 (List.mem_of_getElem? (i := 201) rfl), rfl⟩
set_option maxRecDepth 100000 in
theorem mw_1213 : Cond.static yX7_isEven ∈ gw_all := List.mem_filter.mpr ⟨mt_5 (List.mem_of_getElem? (i := 202) rfl), rfl⟩
set_option maxRecDepth 100000 in
theorem mw_1214 : Cond.code yX7_isEven cX7_isEven 3 (some .boolean) ∈ gw_all := List.mem_filter.mpr ⟨mt_5 (List.mem_of_getElem? (i := 203) rfl), rfl⟩
set_option maxRecDepth 100000 in
theorem mw_1215 : Cond.methodLink RL 57 yX7_weigh ∈ gw_all := List.mem_filter.mpr ⟨mt_5 (List.mem_of_getElem? (i := 204) rfl), rfl⟩
set_option maxRecDepth 100000 in
theorem mw_1216 : Cond.instanceMethod yX7_weigh ∈ gw_all := List.mem_filter.mpr ⟨mt_5 (List.mem_of_getElem? (i := 205) rfl), rfl⟩
set_option maxRecDepth 100000 in
theorem mw_1217 : Cond.selects RX7 yX7_weigh yX7_weigh ∈ gw_all := List.mem_filter.mpr ⟨mt_5 (List.mem_of_getElem? (i := 206) rfl), rfl⟩
set_option maxRecDepth 100000 in
theorem mw_1218 : Cond.code yX7_weigh cX7_weigh 6 (some .int) ∈ gw_all := List.mem_filter.mpr ⟨mt_5 (List.mem_of_getElem? (i := 207) rfl), rfl⟩
set_option maxRecDepth 100000 in
theorem mw_1219 : Cond.methodLink RL 61 yX7_cast ∈ gw_all := List.mem_filter.mpr ⟨mt_5 (List.mem_of_getElem? (i := 208) rfl), rfl⟩
set_option maxRecDepth 100000 in
theorem mw_1220 : Cond.instanceMethod yX7_cast ∈ gw_all := List.mem_filter.mpr ⟨mt_5 (List.mem_of_getElem? (i := 209) rfl), rfl⟩
set_option maxRecDepth 100000 in
theorem mw_1221 : Cond.selects RX7 yX7_cast yX7_cast ∈ gw_all := List.mem_filter.mpr ⟨mt_5 (List.mem_of_getElem? (i := 210) rfl), rfl⟩
set_option maxRecDepth 100000 in
theorem mw_1222 : Cond.code yX7_cast cX7_cast 4 (some .int) ∈ gw_all := List.mem_filter.mpr ⟨mt_5 (List.mem_of_getElem? (i := 211) rfl), rfl⟩
set_option maxRecDepth 100000 in
theorem mw_1223 : Cond.methodLink RL 49 yX7_reserve ∈ gw_all := List.mem_filter.mpr ⟨mt_5 (List.mem_of_getElem? (i := 212) rfl), rfl⟩
set_option maxRecDepth 100000 in
theorem mw_1224 : Cond.instanceMethod yX7_reserve ∈ gw_all := List.mem_filter.mpr ⟨mt_5 (List.mem_of_getElem? (i := 213) rfl), rfl⟩
set_option maxRecDepth 100000 in
theorem mw_1225 : Cond.selects RX7 yX7_reserve yX7_reserve ∈ gw_all := List.mem_filter.mpr ⟨mt_5 (List.mem_of_getElem? (i := 214) rfl), rfl⟩
set_option maxRecDepth 100000 in
theorem mw_1226 : Cond.code yX7_reserve cX7_reserve 8 (some .int) ∈ gw_all := List.mem_filter.mpr ⟨mt_5 (List.mem_of_getElem? (i := 215) rfl), rfl⟩
set_option maxRecDepth 100000 in
theorem mw_1227 : Cond.constantLong RX7 153 3 ∈ gw_all := List.mem_filter.mpr ⟨mt_5 (List.mem_of_getElem? (i := 216) rfl), rfl⟩
set_option maxRecDepth 100000 in
theorem mw_1228 : Cond.methodLink RL 65 yX7_map ∈ gw_all := List.mem_filter.mpr ⟨mt_5 (List.mem_of_getElem? (i := 217) rfl), rfl⟩
set_option maxRecDepth 100000 in
theorem mw_1229 : Cond.instanceMethod yX7_map ∈ gw_all := List.mem_filter.mpr ⟨mt_5 (List.mem_of_getElem? (i := 218) rfl), rfl⟩
set_option maxRecDepth 100000 in
theorem mw_1230 : Cond.selects RX7 yX7_map yX7_map ∈ gw_all := List.mem_filter.mpr ⟨mt_5 (List.mem_of_getElem? (i := 219) rfl), rfl⟩
set_option maxRecDepth 100000 in
theorem mw_1231 : Cond.code yX7_map cX7_map 4 (some .int) ∈ gw_all := List.mem_filter.mpr ⟨mt_5 (List.mem_of_getElem? (i := 220) rfl), rfl⟩
set_option maxRecDepth 100000 in
theorem mw_1232 : Cond.constantLong RX7 155 8388607 ∈ gw_all := List.mem_filter.mpr ⟨mt_5 (List.mem_of_getElem? (i := 221) rfl), rfl⟩
set_option maxRecDepth 100000 in
theorem mw_1233 : Cond.constantLong RX7 157 100 ∈ gw_all := List.mem_filter.mpr ⟨mt_5 (List.mem_of_getElem? (i := 222) rfl), rfl⟩
set_option maxRecDepth 100000 in
theorem mw_1234 : Cond.methodLink RX7 159 yX7_tellMap ∈ gw_all := List.mem_filter.mpr ⟨mt_5 (List.mem_of_getElem? (i := 223) rfl), rfl⟩
set_option maxRecDepth 100000 in
theorem mw_1236 : Cond.instanceMethod yX7_tellMap ∈ gw_all := List.mem_filter.mpr ⟨mt_5 (List.mem_of_getElem? (i := 225) rfl), rfl⟩
set_option maxRecDepth 100000 in
theorem mw_1237 : Cond.code yX7_tellMap cX7_tellMap 6 (some .int) ∈ gw_all := List.mem_filter.mpr ⟨mt_5 (List.mem_of_getElem? (i := 226) rfl), rfl⟩
set_option maxRecDepth 100000 in
theorem mw_1238 : Cond.methodLink RL 69 yX7_adapt ∈ gw_all := List.mem_filter.mpr ⟨mt_5 (List.mem_of_getElem? (i := 227) rfl), rfl⟩
set_option maxRecDepth 100000 in
theorem mw_1239 : Cond.instanceMethod yX7_adapt ∈ gw_all := List.mem_filter.mpr ⟨mt_5 (List.mem_of_getElem? (i := 228) rfl), rfl⟩
set_option maxRecDepth 100000 in
theorem mw_1240 : Cond.selects RX7 yX7_adapt yX7_adapt ∈ gw_all := List.mem_filter.mpr ⟨mt_5 (List.mem_of_getElem? (i := 229) rfl), rfl⟩
set_option maxRecDepth 100000 in
theorem mw_1241 : Cond.code yX7_adapt cX7_adapt 8 (some .int) ∈ gw_all := List.mem_filter.mpr ⟨mt_5 (List.mem_of_getElem? (i := 230) rfl), rfl⟩
set_option maxRecDepth 100000 in
theorem mw_1242 : Cond.constantLong RX7 162 99 ∈ gw_all := List.mem_filter.mpr ⟨mt_5 (List.mem_of_getElem? (i := 231) rfl), rfl⟩
set_option maxRecDepth 100000 in
theorem mw_1243 : Cond.methodLink RX7 164 yX7_badOf ∈ gw_all := List.mem_filter.mpr ⟨mt_5 (List.mem_of_getElem? (i := 232) rfl), rfl⟩
set_option maxRecDepth 100000 in
theorem mw_1245 : Cond.instanceMethod yX7_badOf ∈ gw_all := List.mem_filter.mpr ⟨mt_5 (List.mem_of_getElem? (i := 234) rfl), rfl⟩
set_option maxRecDepth 100000 in
theorem mw_1246 : Cond.code yX7_badOf cX7_badOf 7 (some .int) ∈ gw_all := List.mem_filter.mpr ⟨mt_5 (List.mem_of_getElem? (i := 235) rfl), rfl⟩
set_option maxRecDepth 100000 in
theorem mw_1247 : Cond.methodLink RX7 167 yX7_aheadOf ∈ gw_all := List.mem_filter.mpr ⟨mt_5 (List.mem_of_getElem? (i := 236) rfl), rfl⟩
set_option maxRecDepth 100000 in
theorem mw_1249 : Cond.instanceMethod yX7_aheadOf ∈ gw_all := List.mem_filter.mpr ⟨mt_5 (List.mem_of_getElem? (i := 238) rfl), rfl⟩
set_option maxRecDepth 100000 in
theorem mw_1250 : Cond.code yX7_aheadOf cX7_aheadOf 6 (some .int) ∈ gw_all := List.mem_filter.mpr ⟨mt_5 (List.mem_of_getElem? (i := 239) rfl), rfl⟩
set_option maxRecDepth 100000 in
theorem mw_1251 : Cond.methodLink RL 73 yX7_run ∈ gw_all := List.mem_filter.mpr ⟨mt_6 (List.mem_of_getElem? (i := 0) rfl), rfl⟩
set_option maxRecDepth 100000 in
theorem mw_1252 : Cond.instanceMethod yX7_run ∈ gw_all := List.mem_filter.mpr ⟨mt_6 (List.mem_of_getElem? (i := 1) rfl), rfl⟩
set_option maxRecDepth 100000 in
theorem mw_1253 : Cond.selects RX7 yX7_run yX7_run ∈ gw_all := List.mem_filter.mpr ⟨mt_6 (List.mem_of_getElem? (i := 2) rfl), rfl⟩
set_option maxRecDepth 100000 in
theorem mw_1254 : Cond.code yX7_run cX7_run 2 (some .int) ∈ gw_all := List.mem_filter.mpr ⟨mt_6 (List.mem_of_getElem? (i := 3) rfl), rfl⟩
set_option maxRecDepth 100000 in
theorem mw_1255 : Cond.constantLong RX7 239 200 ∈ gw_all := List.mem_filter.mpr ⟨mt_6 (List.mem_of_getElem? (i := 4) rfl), rfl⟩
set_option maxRecDepth 100000 in
theorem mw_1256 : Cond.constant RX7 241 99998 ∈ gw_all := List.mem_filter.mpr ⟨mt_6 (List.mem_of_getElem? (i := 5) rfl), rfl⟩
set_option maxRecDepth 100000 in
theorem mw_1257 : Cond.methodLink RX7 242 yX7_turnsBy ∈ gw_all := List.mem_filter.mpr ⟨mt_6 (List.mem_of_getElem? (i := 6) rfl), rfl⟩
set_option maxRecDepth 100000 in
theorem mw_1259 : Cond.instanceMethod yX7_turnsBy ∈ gw_all := List.mem_filter.mpr ⟨mt_6 (List.mem_of_getElem? (i := 8) rfl), rfl⟩
set_option maxRecDepth 100000 in
theorem mw_1260 : Cond.code yX7_turnsBy cX7_turnsBy 3 none ∈ gw_all := List.mem_filter.mpr ⟨mt_6 (List.mem_of_getElem? (i := 9) rfl), rfl⟩
set_option maxRecDepth 100000 in
theorem mw_1261 : Cond.methodLink RX7 236 yX7_turn ∈ gw_all := List.mem_filter.mpr ⟨mt_6 (List.mem_of_getElem? (i := 10) rfl), rfl⟩
set_option maxRecDepth 100000 in
theorem mw_1263 : Cond.instanceMethod yX7_turn ∈ gw_all := List.mem_filter.mpr ⟨mt_6 (List.mem_of_getElem? (i := 12) rfl), rfl⟩
set_option maxRecDepth 100000 in
theorem mw_1264 : Cond.code yX7_turn cX7_turn 5 none ∈ gw_all := List.mem_filter.mpr ⟨mt_6 (List.mem_of_getElem? (i := 13) rfl), rfl⟩
set_option maxRecDepth 100000 in
theorem mw_1265 : Cond.methodLink RX7 218 yX7_mapsBecome ∈ gw_all := List.mem_filter.mpr ⟨mt_6 (List.mem_of_getElem? (i := 14) rfl), rfl⟩
set_option maxRecDepth 100000 in
theorem mw_1267 : Cond.instanceMethod yX7_mapsBecome ∈ gw_all := List.mem_filter.mpr ⟨mt_6 (List.mem_of_getElem? (i := 16) rfl), rfl⟩
set_option maxRecDepth 100000 in
theorem mw_1268 : Cond.code yX7_mapsBecome cX7_mapsBecome 5 none ∈ gw_all := List.mem_filter.mpr ⟨mt_6 (List.mem_of_getElem? (i := 17) rfl), rfl⟩
set_option maxRecDepth 100000 in
theorem mw_1269 : Cond.methodLink RX7 221 yX7_framesCome ∈ gw_all := List.mem_filter.mpr ⟨mt_6 (List.mem_of_getElem? (i := 18) rfl), rfl⟩
set_option maxRecDepth 100000 in
theorem mw_1271 : Cond.instanceMethod yX7_framesCome ∈ gw_all := List.mem_filter.mpr ⟨mt_6 (List.mem_of_getElem? (i := 20) rfl), rfl⟩
set_option maxRecDepth 100000 in
theorem mw_1272 : Cond.code yX7_framesCome cX7_framesCome 2 none ∈ gw_all := List.mem_filter.mpr ⟨mt_6 (List.mem_of_getElem? (i := 21) rfl), rfl⟩
set_option maxRecDepth 100000 in
theorem mw_1273 : Cond.methodLink RX7 182 yX7_isLinkHere ∈ gw_all := List.mem_filter.mpr ⟨mt_6 (List.mem_of_getElem? (i := 22) rfl), rfl⟩
set_option maxRecDepth 100000 in
theorem mw_1275 : Cond.instanceMethod yX7_isLinkHere ∈ gw_all := List.mem_filter.mpr ⟨mt_6 (List.mem_of_getElem? (i := 24) rfl), rfl⟩
set_option maxRecDepth 100000 in
theorem mw_1276 : Cond.code yX7_isLinkHere cX7_isLinkHere 3 (some .boolean) ∈ gw_all := List.mem_filter.mpr ⟨mt_6 (List.mem_of_getElem? (i := 25) rfl), rfl⟩
set_option maxRecDepth 100000 in
theorem mw_1277 : Cond.methodLink RX7 179 yX7_isReady ∈ gw_all := List.mem_filter.mpr ⟨mt_6 (List.mem_of_getElem? (i := 26) rfl), rfl⟩
set_option maxRecDepth 100000 in
theorem mw_1279 : Cond.instanceMethod yX7_isReady ∈ gw_all := List.mem_filter.mpr ⟨mt_6 (List.mem_of_getElem? (i := 28) rfl), rfl⟩
set_option maxRecDepth 100000 in
theorem mw_1280 : Cond.code yX7_isReady cX7_isReady 5 (some .boolean) ∈ gw_all := List.mem_filter.mpr ⟨mt_6 (List.mem_of_getElem? (i := 29) rfl), rfl⟩
set_option maxRecDepth 100000 in
theorem mw_1281 : Cond.methodLink RX7 176 yX7_isHere ∈ gw_all := List.mem_filter.mpr ⟨mt_6 (List.mem_of_getElem? (i := 30) rfl), rfl⟩
set_option maxRecDepth 100000 in
theorem mw_1283 : Cond.instanceMethod yX7_isHere ∈ gw_all := List.mem_filter.mpr ⟨mt_6 (List.mem_of_getElem? (i := 32) rfl), rfl⟩
set_option maxRecDepth 100000 in
theorem mw_1284 : Cond.code yX7_isHere cX7_isHere 4 (some .boolean) ∈ gw_all := List.mem_filter.mpr ⟨mt_6 (List.mem_of_getElem? (i := 33) rfl), rfl⟩
set_option maxRecDepth 100000 in
theorem mw_1285 : Cond.methodLink RX7 224 yX7_choose ∈ gw_all := List.mem_filter.mpr ⟨mt_6 (List.mem_of_getElem? (i := 34) rfl), rfl⟩
set_option maxRecDepth 100000 in
theorem mw_1287 : Cond.instanceMethod yX7_choose ∈ gw_all := List.mem_filter.mpr ⟨mt_6 (List.mem_of_getElem? (i := 36) rfl), rfl⟩
set_option maxRecDepth 100000 in
theorem mw_1288 : Cond.code yX7_choose cX7_choose 9 (some .int) ∈ gw_all := List.mem_filter.mpr ⟨mt_6 (List.mem_of_getElem? (i := 37) rfl), rfl⟩
set_option maxRecDepth 100000 in
theorem mw_1289 : Cond.methodLink RX7 227 yX7_sendsDown ∈ gw_all := List.mem_filter.mpr ⟨mt_6 (List.mem_of_getElem? (i := 38) rfl), rfl⟩
set_option maxRecDepth 100000 in
theorem mw_1291 : Cond.instanceMethod yX7_sendsDown ∈ gw_all := List.mem_filter.mpr ⟨mt_6 (List.mem_of_getElem? (i := 40) rfl), rfl⟩
set_option maxRecDepth 100000 in
theorem mw_1292 : Cond.code yX7_sendsDown cX7_sendsDown 5 none ∈ gw_all := List.mem_filter.mpr ⟨mt_6 (List.mem_of_getElem? (i := 41) rfl), rfl⟩
set_option maxRecDepth 100000 in
theorem mw_1293 : Cond.methodLink RX7 196 yX7_mapFor ∈ gw_all := List.mem_filter.mpr ⟨mt_6 (List.mem_of_getElem? (i := 42) rfl), rfl⟩
set_option maxRecDepth 100000 in
theorem mw_1295 : Cond.instanceMethod yX7_mapFor ∈ gw_all := List.mem_filter.mpr ⟨mt_6 (List.mem_of_getElem? (i := 44) rfl), rfl⟩
set_option maxRecDepth 100000 in
theorem mw_1296 : Cond.code yX7_mapFor cX7_mapFor 4 (some .int) ∈ gw_all := List.mem_filter.mpr ⟨mt_6 (List.mem_of_getElem? (i := 45) rfl), rfl⟩
set_option maxRecDepth 100000 in
theorem mw_1297 : Cond.methodLink RX7 199 yX7_casts ∈ gw_all := List.mem_filter.mpr ⟨mt_6 (List.mem_of_getElem? (i := 46) rfl), rfl⟩
set_option maxRecDepth 100000 in
theorem mw_1299 : Cond.instanceMethod yX7_casts ∈ gw_all := List.mem_filter.mpr ⟨mt_6 (List.mem_of_getElem? (i := 48) rfl), rfl⟩
set_option maxRecDepth 100000 in
theorem mw_1300 : Cond.code yX7_casts cX7_casts 6 none ∈ gw_all := List.mem_filter.mpr ⟨mt_6 (List.mem_of_getElem? (i := 49) rfl), rfl⟩
set_option maxRecDepth 100000 in
theorem mw_1301 : Cond.methodLink RX7 202 yX7_whyNot ∈ gw_all := List.mem_filter.mpr ⟨mt_6 (List.mem_of_getElem? (i := 50) rfl), rfl⟩
set_option maxRecDepth 100000 in
theorem mw_1303 : Cond.instanceMethod yX7_whyNot ∈ gw_all := List.mem_filter.mpr ⟨mt_6 (List.mem_of_getElem? (i := 52) rfl), rfl⟩
set_option maxRecDepth 100000 in
theorem mw_1304 : Cond.code yX7_whyNot cX7_whyNot 4 (some .int) ∈ gw_all := List.mem_filter.mpr ⟨mt_6 (List.mem_of_getElem? (i := 53) rfl), rfl⟩
set_option maxRecDepth 100000 in
theorem mw_1305 : Cond.methodLink RX7 185 yX7_draw ∈ gw_all := List.mem_filter.mpr ⟨mt_6 (List.mem_of_getElem? (i := 54) rfl), rfl⟩
set_option maxRecDepth 100000 in
theorem mw_1307 : Cond.instanceMethod yX7_draw ∈ gw_all := List.mem_filter.mpr ⟨mt_6 (List.mem_of_getElem? (i := 56) rfl), rfl⟩
set_option maxRecDepth 100000 in
theorem mw_1308 : Cond.code yX7_draw cX7_draw 1 (some .int) ∈ gw_all := List.mem_filter.mpr ⟨mt_6 (List.mem_of_getElem? (i := 57) rfl), rfl⟩
set_option maxRecDepth 100000 in
theorem mw_1309 : Cond.constantLong RX7 170 1103 ∈ gw_all := List.mem_filter.mpr ⟨mt_6 (List.mem_of_getElem? (i := 58) rfl), rfl⟩
set_option maxRecDepth 100000 in
theorem mw_1310 : Cond.constantLong RX7 172 12345 ∈ gw_all := List.mem_filter.mpr ⟨mt_6 (List.mem_of_getElem? (i := 59) rfl), rfl⟩
set_option maxRecDepth 100000 in
theorem mw_1311 : Cond.constantLong RX7 174 1000003 ∈ gw_all := List.mem_filter.mpr ⟨mt_6 (List.mem_of_getElem? (i := 60) rfl), rfl⟩
set_option maxRecDepth 100000 in
theorem mw_1312 : Cond.methodLink RX7 205 yX7_memberHears ∈ gw_all := List.mem_filter.mpr ⟨mt_6 (List.mem_of_getElem? (i := 61) rfl), rfl⟩
set_option maxRecDepth 100000 in
theorem mw_1314 : Cond.instanceMethod yX7_memberHears ∈ gw_all := List.mem_filter.mpr ⟨mt_6 (List.mem_of_getElem? (i := 63) rfl), rfl⟩
set_option maxRecDepth 100000 in
theorem mw_1315 : Cond.code yX7_memberHears cX7_memberHears 4 none ∈ gw_all := List.mem_filter.mpr ⟨mt_6 (List.mem_of_getElem? (i := 64) rfl), rfl⟩
set_option maxRecDepth 100000 in
theorem mw_1316 : Cond.methodLink RX7 209 yX7_hears ∈ gw_all := List.mem_filter.mpr ⟨mt_6 (List.mem_of_getElem? (i := 65) rfl), rfl⟩
set_option maxRecDepth 100000 in
theorem mw_1318 : Cond.instanceMethod yX7_hears ∈ gw_all := List.mem_filter.mpr ⟨mt_6 (List.mem_of_getElem? (i := 67) rfl), rfl⟩
set_option maxRecDepth 100000 in
theorem mw_1319 : Cond.code yX7_hears cX7_hears 6 none ∈ gw_all := List.mem_filter.mpr ⟨mt_6 (List.mem_of_getElem? (i := 68) rfl), rfl⟩
set_option maxRecDepth 100000 in
theorem mw_1320 : Cond.methodLink RX7 192 yX7_passes ∈ gw_all := List.mem_filter.mpr ⟨mt_6 (List.mem_of_getElem? (i := 69) rfl), rfl⟩
set_option maxRecDepth 100000 in
theorem mw_1322 : Cond.instanceMethod yX7_passes ∈ gw_all := List.mem_filter.mpr ⟨mt_6 (List.mem_of_getElem? (i := 71) rfl), rfl⟩
set_option maxRecDepth 100000 in
theorem mw_1323 : Cond.code yX7_passes cX7_passes 7 none ∈ gw_all := List.mem_filter.mpr ⟨mt_6 (List.mem_of_getElem? (i := 72) rfl), rfl⟩
set_option maxRecDepth 100000 in
theorem mw_1324 : Cond.methodLink RX7 212 yX7_goes ∈ gw_all := List.mem_filter.mpr ⟨mt_6 (List.mem_of_getElem? (i := 73) rfl), rfl⟩
set_option maxRecDepth 100000 in
theorem mw_1326 : Cond.instanceMethod yX7_goes ∈ gw_all := List.mem_filter.mpr ⟨mt_6 (List.mem_of_getElem? (i := 75) rfl), rfl⟩
set_option maxRecDepth 100000 in
theorem mw_1327 : Cond.code yX7_goes cX7_goes 8 none ∈ gw_all := List.mem_filter.mpr ⟨mt_6 (List.mem_of_getElem? (i := 76) rfl), rfl⟩
set_option maxRecDepth 100000 in
theorem mw_1328 : Cond.methodLink RX7 230 yX7_sendsUp ∈ gw_all := List.mem_filter.mpr ⟨mt_6 (List.mem_of_getElem? (i := 77) rfl), rfl⟩
set_option maxRecDepth 100000 in
theorem mw_1330 : Cond.instanceMethod yX7_sendsUp ∈ gw_all := List.mem_filter.mpr ⟨mt_6 (List.mem_of_getElem? (i := 79) rfl), rfl⟩
set_option maxRecDepth 100000 in
theorem mw_1331 : Cond.code yX7_sendsUp cX7_sendsUp 4 none ∈ gw_all := List.mem_filter.mpr ⟨mt_6 (List.mem_of_getElem? (i := 80) rfl), rfl⟩
set_option maxRecDepth 100000 in
theorem mw_1332 : Cond.methodLink RX7 215 yX7_masterHears ∈ gw_all := List.mem_filter.mpr ⟨mt_6 (List.mem_of_getElem? (i := 81) rfl), rfl⟩
set_option maxRecDepth 100000 in
theorem mw_1334 : Cond.instanceMethod yX7_masterHears ∈ gw_all := List.mem_filter.mpr ⟨mt_6 (List.mem_of_getElem? (i := 83) rfl), rfl⟩
set_option maxRecDepth 100000 in
theorem mw_1335 : Cond.code yX7_masterHears cX7_masterHears 3 none ∈ gw_all := List.mem_filter.mpr ⟨mt_6 (List.mem_of_getElem? (i := 84) rfl), rfl⟩
set_option maxRecDepth 100000 in
theorem mw_1336 : Cond.methodLink RL 98 yX7_alike ∈ gw_all := List.mem_filter.mpr ⟨mt_6 (List.mem_of_getElem? (i := 85) rfl), rfl⟩
set_option maxRecDepth 100000 in
theorem mw_1337 : Cond.instanceMethod yX7_alike ∈ gw_all := List.mem_filter.mpr ⟨mt_6 (List.mem_of_getElem? (i := 86) rfl), rfl⟩
set_option maxRecDepth 100000 in
theorem mw_1338 : Cond.selects RX7 yX7_alike yX7_alike ∈ gw_all := List.mem_filter.mpr ⟨mt_6 (List.mem_of_getElem? (i := 87) rfl), rfl⟩
set_option maxRecDepth 100000 in
theorem mw_1339 : Cond.code yX7_alike cX7_alike 8 (some .int) ∈ gw_all := List.mem_filter.mpr ⟨mt_6 (List.mem_of_getElem? (i := 88) rfl), rfl⟩
set_option maxRecDepth 100000 in
theorem mw_1340 : Cond.methodLink RL 102 yX7_mapOf ∈ gw_all := List.mem_filter.mpr ⟨mt_6 (List.mem_of_getElem? (i := 89) rfl), rfl⟩
set_option maxRecDepth 100000 in
theorem mw_1341 : Cond.instanceMethod yX7_mapOf ∈ gw_all := List.mem_filter.mpr ⟨mt_6 (List.mem_of_getElem? (i := 90) rfl), rfl⟩
set_option maxRecDepth 100000 in
theorem mw_1342 : Cond.selects RX7 yX7_mapOf yX7_mapOf ∈ gw_all := List.mem_filter.mpr ⟨mt_6 (List.mem_of_getElem? (i := 91) rfl), rfl⟩
set_option maxRecDepth 100000 in
theorem mw_1343 : Cond.code yX7_mapOf cX7_mapOf 5 (some .int) ∈ gw_all := List.mem_filter.mpr ⟨mt_6 (List.mem_of_getElem? (i := 92) rfl), rfl⟩
set_option maxRecDepth 100000 in
theorem mw_1344 : Cond.methodLink RL 106 yX7_meets ∈ gw_all := List.mem_filter.mpr ⟨mt_6 (List.mem_of_getElem? (i := 93) rfl), rfl⟩
set_option maxRecDepth 100000 in
theorem mw_1345 : Cond.instanceMethod yX7_meets ∈ gw_all := List.mem_filter.mpr ⟨mt_6 (List.mem_of_getElem? (i := 94) rfl), rfl⟩
set_option maxRecDepth 100000 in
theorem mw_1346 : Cond.selects RX7 yX7_meets yX7_meets ∈ gw_all := List.mem_filter.mpr ⟨mt_6 (List.mem_of_getElem? (i := 95) rfl), rfl⟩
set_option maxRecDepth 100000 in
theorem mw_1347 : Cond.code yX7_meets cX7_meets 2 (some .int) ∈ gw_all := List.mem_filter.mpr ⟨mt_6 (List.mem_of_getElem? (i := 96) rfl), rfl⟩
set_option maxRecDepth 100000 in
theorem mw_1348 : Cond.methodLink RL 110 yX7_used ∈ gw_all := List.mem_filter.mpr ⟨mt_6 (List.mem_of_getElem? (i := 97) rfl), rfl⟩
set_option maxRecDepth 100000 in
theorem mw_1349 : Cond.instanceMethod yX7_used ∈ gw_all := List.mem_filter.mpr ⟨mt_6 (List.mem_of_getElem? (i := 98) rfl), rfl⟩
set_option maxRecDepth 100000 in
theorem mw_1350 : Cond.selects RX7 yX7_used yX7_used ∈ gw_all := List.mem_filter.mpr ⟨mt_6 (List.mem_of_getElem? (i := 99) rfl), rfl⟩
set_option maxRecDepth 100000 in
theorem mw_1351 : Cond.code yX7_used cX7_used 6 (some .int) ∈ gw_all := List.mem_filter.mpr ⟨mt_6 (List.mem_of_getElem? (i := 100) rfl), rfl⟩
set_option maxRecDepth 100000 in
theorem mw_1352 : Cond.constantLong RX7 245 512 ∈ gw_all := List.mem_filter.mpr ⟨mt_6 (List.mem_of_getElem? (i := 101) rfl), rfl⟩
set_option maxRecDepth 100000 in
theorem mw_1353 : Cond.methodLink RL 114 yX7_bad ∈ gw_all := List.mem_filter.mpr ⟨mt_6 (List.mem_of_getElem? (i := 102) rfl), rfl⟩
set_option maxRecDepth 100000 in
theorem mw_1354 : Cond.instanceMethod yX7_bad ∈ gw_all := List.mem_filter.mpr ⟨mt_6 (List.mem_of_getElem? (i := 103) rfl), rfl⟩
set_option maxRecDepth 100000 in
theorem mw_1355 : Cond.selects RX7 yX7_bad yX7_bad ∈ gw_all := List.mem_filter.mpr ⟨mt_6 (List.mem_of_getElem? (i := 104) rfl), rfl⟩
set_option maxRecDepth 100000 in
theorem mw_1356 : Cond.code yX7_bad cX7_bad 3 (some .int) ∈ gw_all := List.mem_filter.mpr ⟨mt_6 (List.mem_of_getElem? (i := 105) rfl), rfl⟩
set_option maxRecDepth 100000 in
theorem mw_1357 : Cond.methodLink RL 118 yX7_sent ∈ gw_all := List.mem_filter.mpr ⟨mt_6 (List.mem_of_getElem? (i := 106) rfl), rfl⟩
set_option maxRecDepth 100000 in
theorem mw_1358 : Cond.instanceMethod yX7_sent ∈ gw_all := List.mem_filter.mpr ⟨mt_6 (List.mem_of_getElem? (i := 107) rfl), rfl⟩
set_option maxRecDepth 100000 in
theorem mw_1359 : Cond.selects RX7 yX7_sent yX7_sent ∈ gw_all := List.mem_filter.mpr ⟨mt_6 (List.mem_of_getElem? (i := 108) rfl), rfl⟩
set_option maxRecDepth 100000 in
theorem mw_1360 : Cond.code yX7_sent cX7_sent 4 (some .int) ∈ gw_all := List.mem_filter.mpr ⟨mt_6 (List.mem_of_getElem? (i := 109) rfl), rfl⟩
set_option maxRecDepth 100000 in
theorem mw_1361 : Cond.methodLink RL 122 yX7_link ∈ gw_all := List.mem_filter.mpr ⟨mt_6 (List.mem_of_getElem? (i := 110) rfl), rfl⟩
set_option maxRecDepth 100000 in
theorem mw_1362 : Cond.instanceMethod yX7_link ∈ gw_all := List.mem_filter.mpr ⟨mt_6 (List.mem_of_getElem? (i := 111) rfl), rfl⟩
set_option maxRecDepth 100000 in
theorem mw_1363 : Cond.selects RX7 yX7_link yX7_link ∈ gw_all := List.mem_filter.mpr ⟨mt_6 (List.mem_of_getElem? (i := 112) rfl), rfl⟩
set_option maxRecDepth 100000 in
theorem mw_1364 : Cond.code yX7_link cX7_link 5 (some .int) ∈ gw_all := List.mem_filter.mpr ⟨mt_6 (List.mem_of_getElem? (i := 113) rfl), rfl⟩
set_option maxRecDepth 100000 in
theorem mw_1365 : Cond.methodLink RL 126 yX7_hash ∈ gw_all := List.mem_filter.mpr ⟨mt_6 (List.mem_of_getElem? (i := 114) rfl), rfl⟩
set_option maxRecDepth 100000 in
theorem mw_1366 : Cond.instanceMethod yX7_hash ∈ gw_all := List.mem_filter.mpr ⟨mt_6 (List.mem_of_getElem? (i := 115) rfl), rfl⟩
set_option maxRecDepth 100000 in
theorem mw_1367 : Cond.selects RX7 yX7_hash yX7_hash ∈ gw_all := List.mem_filter.mpr ⟨mt_6 (List.mem_of_getElem? (i := 116) rfl), rfl⟩
set_option maxRecDepth 100000 in
theorem mw_1368 : Cond.code yX7_hash cX7_hash 4 (some .int) ∈ gw_all := List.mem_filter.mpr ⟨mt_6 (List.mem_of_getElem? (i := 117) rfl), rfl⟩
set_option maxRecDepth 100000 in
theorem mw_1369 : Cond.methodLink RL 130 yX7_reserved ∈ gw_all := List.mem_filter.mpr ⟨mt_6 (List.mem_of_getElem? (i := 118) rfl), rfl⟩
set_option maxRecDepth 100000 in
theorem mw_1370 : Cond.instanceMethod yX7_reserved ∈ gw_all := List.mem_filter.mpr ⟨mt_6 (List.mem_of_getElem? (i := 119) rfl), rfl⟩
set_option maxRecDepth 100000 in
theorem mw_1371 : Cond.selects RX7 yX7_reserved yX7_reserved ∈ gw_all := List.mem_filter.mpr ⟨mt_6 (List.mem_of_getElem? (i := 120) rfl), rfl⟩
set_option maxRecDepth 100000 in
theorem mw_1372 : Cond.code yX7_reserved cX7_reserved 4 (some .int) ∈ gw_all := List.mem_filter.mpr ⟨mt_6 (List.mem_of_getElem? (i := 121) rfl), rfl⟩
set_option maxRecDepth 100000 in
theorem mw_1373 : Cond.constantLong RX7 247 5 ∈ gw_all := List.mem_filter.mpr ⟨mt_6 (List.mem_of_getElem? (i := 122) rfl), rfl⟩
set_option maxRecDepth 100000 in
theorem mw_1374 : Cond.methodLink RL 134 yX7_isThere ∈ gw_all := List.mem_filter.mpr ⟨mt_6 (List.mem_of_getElem? (i := 123) rfl), rfl⟩
set_option maxRecDepth 100000 in
theorem mw_1375 : Cond.instanceMethod yX7_isThere ∈ gw_all := List.mem_filter.mpr ⟨mt_6 (List.mem_of_getElem? (i := 124) rfl), rfl⟩
set_option maxRecDepth 100000 in
theorem mw_1376 : Cond.selects RX7 yX7_isThere yX7_isThere ∈ gw_all := List.mem_filter.mpr ⟨mt_6 (List.mem_of_getElem? (i := 125) rfl), rfl⟩
set_option maxRecDepth 100000 in
theorem mw_1377 : Cond.code yX7_isThere cX7_isThere 4 (some .int) ∈ gw_all := List.mem_filter.mpr ⟨mt_6 (List.mem_of_getElem? (i := 126) rfl), rfl⟩
set_option maxRecDepth 100000 in
theorem mw_1378 : Cond.methodLink RL 138 yX7_odds ∈ gw_all := List.mem_filter.mpr ⟨mt_6 (List.mem_of_getElem? (i := 127) rfl), rfl⟩
set_option maxRecDepth 100000 in
theorem mw_1379 : Cond.instanceMethod yX7_odds ∈ gw_all := List.mem_filter.mpr ⟨mt_6 (List.mem_of_getElem? (i := 128) rfl), rfl⟩
set_option maxRecDepth 100000 in
theorem mw_1380 : Cond.selects RX7 yX7_odds yX7_odds ∈ gw_all := List.mem_filter.mpr ⟨mt_6 (List.mem_of_getElem? (i := 129) rfl), rfl⟩
set_option maxRecDepth 100000 in
theorem mw_1381 : Cond.code yX7_odds cX7_odds 8 (some .int) ∈ gw_all := List.mem_filter.mpr ⟨mt_6 (List.mem_of_getElem? (i := 130) rfl), rfl⟩
set_option maxRecDepth 100000 in
theorem mw_1382 : Cond.constantLong RX7 249 64 ∈ gw_all := List.mem_filter.mpr ⟨mt_6 (List.mem_of_getElem? (i := 131) rfl), rfl⟩
set_option maxRecDepth 100000 in
theorem mw_1383 : Cond.methodLink RX7 251 yX7_chance ∈ gw_all := List.mem_filter.mpr ⟨mt_6 (List.mem_of_getElem? (i := 132) rfl), rfl⟩
set_option maxRecDepth 100000 in
theorem mw_1385 : Cond.instanceMethod yX7_chance ∈ gw_all := List.mem_filter.mpr ⟨mt_6 (List.mem_of_getElem? (i := 134) rfl), rfl⟩
set_option maxRecDepth 100000 in
theorem mw_1386 : Cond.code yX7_chance cX7_chance 5 (some .int) ∈ gw_all := List.mem_filter.mpr ⟨mt_6 (List.mem_of_getElem? (i := 135) rfl), rfl⟩
set_option maxRecDepth 100000 in
theorem mw_1387 : Cond.methodLink RX7 254 yX7_common ∈ gw_all := List.mem_filter.mpr ⟨mt_6 (List.mem_of_getElem? (i := 136) rfl), rfl⟩
set_option maxRecDepth 100000 in
theorem mw_1388 : Cond.static yX7_common ∈ gw_all := List.mem_filter.mpr ⟨mt_6 (List.mem_of_getElem? (i := 137) rfl), rfl⟩
set_option maxRecDepth 100000 in
theorem mw_1389 : Cond.code yX7_common cX7_common 5 (some .int) ∈ gw_all := List.mem_filter.mpr ⟨mt_6 (List.mem_of_getElem? (i := 138) rfl), rfl⟩
set_option maxRecDepth 100000 in
theorem mw_1390 : Cond.methodLink RL 142 yX7_clashes ∈ gw_all := List.mem_filter.mpr ⟨mt_6 (List.mem_of_getElem? (i := 139) rfl), rfl⟩
set_option maxRecDepth 100000 in
theorem mw_1391 : Cond.instanceMethod yX7_clashes ∈ gw_all := List.mem_filter.mpr ⟨mt_6 (List.mem_of_getElem? (i := 140) rfl), rfl⟩
set_option maxRecDepth 100000 in
theorem mw_1392 : Cond.selects RX7 yX7_clashes yX7_clashes ∈ gw_all := List.mem_filter.mpr ⟨mt_6 (List.mem_of_getElem? (i := 141) rfl), rfl⟩
set_option maxRecDepth 100000 in
theorem mw_1393 : Cond.code yX7_clashes cX7_clashes 2 (some .int) ∈ gw_all := List.mem_filter.mpr ⟨mt_6 (List.mem_of_getElem? (i := 142) rfl), rfl⟩
set_option maxRecDepth 100000 in
theorem mw_1394 : Cond.methodLink RX7 257 yX7_areBoth ∈ gw_all := List.mem_filter.mpr ⟨mt_6 (List.mem_of_getElem? (i := 143) rfl), rfl⟩
set_option maxRecDepth 100000 in
theorem mw_1396 : Cond.instanceMethod yX7_areBoth ∈ gw_all := List.mem_filter.mpr ⟨mt_6 (List.mem_of_getElem? (i := 145) rfl), rfl⟩
set_option maxRecDepth 100000 in
theorem mw_1397 : Cond.code yX7_areBoth cX7_areBoth 2 (some .boolean) ∈ gw_all := List.mem_filter.mpr ⟨mt_6 (List.mem_of_getElem? (i := 146) rfl), rfl⟩
set_option maxRecDepth 100000 in
theorem mw_1398 : Cond.methodLink RX7 260 yX7_clashesBy ∈ gw_all := List.mem_filter.mpr ⟨mt_6 (List.mem_of_getElem? (i := 147) rfl), rfl⟩
set_option maxRecDepth 100000 in
theorem mw_1400 : Cond.instanceMethod yX7_clashesBy ∈ gw_all := List.mem_filter.mpr ⟨mt_6 (List.mem_of_getElem? (i := 149) rfl), rfl⟩
set_option maxRecDepth 100000 in
theorem mw_1401 : Cond.code yX7_clashesBy cX7_clashesBy 5 (some .int) ∈ gw_all := List.mem_filter.mpr ⟨mt_6 (List.mem_of_getElem? (i := 150) rfl), rfl⟩
set_option maxRecDepth 100000 in
theorem mw_1402 : Cond.methodLink RL 146 yX7_bestOffset ∈ gw_all := List.mem_filter.mpr ⟨mt_6 (List.mem_of_getElem? (i := 151) rfl), rfl⟩
set_option maxRecDepth 100000 in
theorem mw_1403 : Cond.instanceMethod yX7_bestOffset ∈ gw_all := List.mem_filter.mpr ⟨mt_6 (List.mem_of_getElem? (i := 152) rfl), rfl⟩
set_option maxRecDepth 100000 in
theorem mw_1404 : Cond.selects RX7 yX7_bestOffset yX7_bestOffset ∈ gw_all := List.mem_filter.mpr ⟨mt_6 (List.mem_of_getElem? (i := 153) rfl), rfl⟩
set_option maxRecDepth 100000 in
theorem mw_1405 : Cond.code yX7_bestOffset cX7_bestOffset 8 (some .int) ∈ gw_all := List.mem_filter.mpr ⟨mt_6 (List.mem_of_getElem? (i := 154) rfl), rfl⟩
set_option maxRecDepth 100000 in
theorem mw_1406 : Cond.methodLink RL 158 yX7_ready ∈ gw_all := List.mem_filter.mpr ⟨mt_6 (List.mem_of_getElem? (i := 155) rfl), rfl⟩
set_option maxRecDepth 100000 in
theorem mw_1407 : Cond.instanceMethod yX7_ready ∈ gw_all := List.mem_filter.mpr ⟨mt_6 (List.mem_of_getElem? (i := 156) rfl), rfl⟩
set_option maxRecDepth 100000 in
theorem mw_1408 : Cond.selects RX7 yX7_ready yX7_ready ∈ gw_all := List.mem_filter.mpr ⟨mt_6 (List.mem_of_getElem? (i := 157) rfl), rfl⟩
set_option maxRecDepth 100000 in
theorem mw_1409 : Cond.code yX7_ready cX7_ready 5 (some .int) ∈ gw_all := List.mem_filter.mpr ⟨mt_6 (List.mem_of_getElem? (i := 158) rfl), rfl⟩
set_option maxRecDepth 100000 in
theorem mw_1410 : Cond.methodLink RL 162 yX7_bothReady ∈ gw_all := List.mem_filter.mpr ⟨mt_6 (List.mem_of_getElem? (i := 159) rfl), rfl⟩
set_option maxRecDepth 100000 in
theorem mw_1411 : Cond.instanceMethod yX7_bothReady ∈ gw_all := List.mem_filter.mpr ⟨mt_6 (List.mem_of_getElem? (i := 160) rfl), rfl⟩
set_option maxRecDepth 100000 in
theorem mw_1412 : Cond.selects RX7 yX7_bothReady yX7_bothReady ∈ gw_all := List.mem_filter.mpr ⟨mt_6 (List.mem_of_getElem? (i := 161) rfl), rfl⟩
set_option maxRecDepth 100000 in
theorem mw_1413 : Cond.code yX7_bothReady cX7_bothReady 8 (some .int) ∈ gw_all := List.mem_filter.mpr ⟨mt_6 (List.mem_of_getElem? (i := 162) rfl), rfl⟩
set_option maxRecDepth 100000 in
theorem mw_1414 : Cond.methodLink RL 166 yX7_ahead ∈ gw_all := List.mem_filter.mpr ⟨mt_6 (List.mem_of_getElem? (i := 163) rfl), rfl⟩
set_option maxRecDepth 100000 in
theorem mw_1415 : Cond.instanceMethod yX7_ahead ∈ gw_all := List.mem_filter.mpr ⟨mt_6 (List.mem_of_getElem? (i := 164) rfl), rfl⟩
set_option maxRecDepth 100000 in
theorem mw_1416 : Cond.selects RX7 yX7_ahead yX7_ahead ∈ gw_all := List.mem_filter.mpr ⟨mt_6 (List.mem_of_getElem? (i := 165) rfl), rfl⟩
set_option maxRecDepth 100000 in
theorem mw_1417 : Cond.code yX7_ahead cX7_ahead 3 (some .int) ∈ gw_all := List.mem_filter.mpr ⟨mt_6 (List.mem_of_getElem? (i := 166) rfl), rfl⟩
set_option maxRecDepth 100000 in
theorem mw_1418 : Cond.methodLink RX7 263 yX7_canTurn ∈ gw_all := List.mem_filter.mpr ⟨mt_6 (List.mem_of_getElem? (i := 167) rfl), rfl⟩
set_option maxRecDepth 100000 in
theorem mw_1420 : Cond.instanceMethod yX7_canTurn ∈ gw_all := List.mem_filter.mpr ⟨mt_6 (List.mem_of_getElem? (i := 169) rfl), rfl⟩
set_option maxRecDepth 100000 in
theorem mw_1421 : Cond.code yX7_canTurn cX7_canTurn 2 (some .boolean) ∈ gw_all := List.mem_filter.mpr ⟨mt_6 (List.mem_of_getElem? (i := 170) rfl), rfl⟩
set_option maxRecDepth 100000 in
theorem mw_1422 : Cond.methodLink RL 170 yX7_together ∈ gw_all := List.mem_filter.mpr ⟨mt_6 (List.mem_of_getElem? (i := 171) rfl), rfl⟩
set_option maxRecDepth 100000 in
theorem mw_1423 : Cond.instanceMethod yX7_together ∈ gw_all := List.mem_filter.mpr ⟨mt_6 (List.mem_of_getElem? (i := 172) rfl), rfl⟩
set_option maxRecDepth 100000 in
theorem mw_1424 : Cond.selects RX7 yX7_together yX7_together ∈ gw_all := List.mem_filter.mpr ⟨mt_6 (List.mem_of_getElem? (i := 173) rfl), rfl⟩
set_option maxRecDepth 100000 in
theorem mw_1425 : Cond.code yX7_together cX7_together 6 (some .int) ∈ gw_all := List.mem_filter.mpr ⟨mt_6 (List.mem_of_getElem? (i := 174) rfl), rfl⟩
set_option maxRecDepth 100000 in
theorem mw_1426 : Cond.methodLink RX7 266 yX7_comesAt ∈ gw_all := List.mem_filter.mpr ⟨mt_6 (List.mem_of_getElem? (i := 175) rfl), rfl⟩
set_option maxRecDepth 100000 in
theorem mw_1428 : Cond.instanceMethod yX7_comesAt ∈ gw_all := List.mem_filter.mpr ⟨mt_6 (List.mem_of_getElem? (i := 177) rfl), rfl⟩
set_option maxRecDepth 100000 in
theorem mw_1429 : Cond.code yX7_comesAt cX7_comesAt 3 (some .boolean) ∈ gw_all := List.mem_filter.mpr ⟨mt_6 (List.mem_of_getElem? (i := 178) rfl), rfl⟩
set_option maxRecDepth 100000 in
theorem mw_1430 : Cond.methodLink RL 174 yX7_ranked ∈ gw_all := List.mem_filter.mpr ⟨mt_6 (List.mem_of_getElem? (i := 179) rfl), rfl⟩
set_option maxRecDepth 100000 in
theorem mw_1431 : Cond.instanceMethod yX7_ranked ∈ gw_all := List.mem_filter.mpr ⟨mt_6 (List.mem_of_getElem? (i := 180) rfl), rfl⟩
set_option maxRecDepth 100000 in
theorem mw_1432 : Cond.selects RX7 yX7_ranked yX7_ranked ∈ gw_all := List.mem_filter.mpr ⟨mt_6 (List.mem_of_getElem? (i := 181) rfl), rfl⟩
set_option maxRecDepth 100000 in
theorem mw_1433 : Cond.code yX7_ranked cX7_ranked 7 (some .int) ∈ gw_all := List.mem_filter.mpr ⟨mt_6 (List.mem_of_getElem? (i := 182) rfl), rfl⟩
set_option maxRecDepth 100000 in
theorem mw_1434 : Cond.methodLink RX7 269 yX7_isAhead ∈ gw_all := List.mem_filter.mpr ⟨mt_6 (List.mem_of_getElem? (i := 183) rfl), rfl⟩
set_option maxRecDepth 100000 in
theorem mw_1436 : Cond.instanceMethod yX7_isAhead ∈ gw_all := List.mem_filter.mpr ⟨mt_6 (List.mem_of_getElem? (i := 185) rfl), rfl⟩
set_option maxRecDepth 100000 in
theorem mw_1437 : Cond.code yX7_isAhead cX7_isAhead 8 (some .boolean) ∈ gw_all := List.mem_filter.mpr ⟨mt_6 (List.mem_of_getElem? (i := 186) rfl), rfl⟩
set_option maxRecDepth 100000 in
theorem mw_1438 : Cond.methodLink RL 178 yX7_quiet ∈ gw_all := List.mem_filter.mpr ⟨mt_6 (List.mem_of_getElem? (i := 187) rfl), rfl⟩
set_option maxRecDepth 100000 in
theorem mw_1439 : Cond.instanceMethod yX7_quiet ∈ gw_all := List.mem_filter.mpr ⟨mt_6 (List.mem_of_getElem? (i := 188) rfl), rfl⟩
set_option maxRecDepth 100000 in
theorem mw_1440 : Cond.selects RX7 yX7_quiet yX7_quiet ∈ gw_all := List.mem_filter.mpr ⟨mt_6 (List.mem_of_getElem? (i := 189) rfl), rfl⟩
set_option maxRecDepth 100000 in
theorem mw_1441 : Cond.code yX7_quiet cX7_quiet 5 (some .int) ∈ gw_all := List.mem_filter.mpr ⟨mt_6 (List.mem_of_getElem? (i := 190) rfl), rfl⟩
set_option maxRecDepth 100000 in
theorem mw_1442 : Cond.constantLong RX7 272 9999 ∈ gw_all := List.mem_filter.mpr ⟨mt_6 (List.mem_of_getElem? (i := 191) rfl), rfl⟩
set_option maxRecDepth 100000 in
theorem mw_1443 : Cond.methodLink RL 150 yX7_drain ∈ gw_all := List.mem_filter.mpr ⟨mt_6 (List.mem_of_getElem? (i := 192) rfl), rfl⟩
set_option maxRecDepth 100000 in
theorem mw_1444 : Cond.instanceMethod yX7_drain ∈ gw_all := List.mem_filter.mpr ⟨mt_6 (List.mem_of_getElem? (i := 193) rfl), rfl⟩
set_option maxRecDepth 100000 in
theorem mw_1445 : Cond.selects RX7 yX7_drain yX7_drain ∈ gw_all := List.mem_filter.mpr ⟨mt_6 (List.mem_of_getElem? (i := 194) rfl), rfl⟩
set_option maxRecDepth 100000 in
theorem mw_1446 : Cond.code yX7_drain cX7_drain 5 (some .int) ∈ gw_all := List.mem_filter.mpr ⟨mt_6 (List.mem_of_getElem? (i := 195) rfl), rfl⟩
set_option maxRecDepth 100000 in
theorem mw_1447 : Cond.methodLink RX7 274 yX7_isEmpty ∈ gw_all := List.mem_filter.mpr ⟨mt_6 (List.mem_of_getElem? (i := 196) rfl), rfl⟩
set_option maxRecDepth 100000 in
theorem mw_1449 : Cond.instanceMethod yX7_isEmpty ∈ gw_all := List.mem_filter.mpr ⟨mt_6 (List.mem_of_getElem? (i := 198) rfl), rfl⟩
set_option maxRecDepth 100000 in
theorem mw_1450 : Cond.code yX7_isEmpty cX7_isEmpty 4 (some .boolean) ∈ gw_all := List.mem_filter.mpr ⟨mt_6 (List.mem_of_getElem? (i := 199) rfl), rfl⟩
set_option maxRecDepth 100000 in
theorem mw_1451 : Cond.methodLink RL 154 yX7_would ∈ gw_all := List.mem_filter.mpr ⟨mt_6 (List.mem_of_getElem? (i := 200) rfl), rfl⟩
set_option maxRecDepth 100000 in
theorem mw_1452 : Cond.instanceMethod yX7_would ∈ gw_all := List.mem_filter.mpr ⟨mt_6 (List.mem_of_getElem? (i := 201) rfl), rfl⟩
set_option maxRecDepth 100000 in
theorem mw_1453 : Cond.selects RX7 yX7_would yX7_would ∈ gw_all := List.mem_filter.mpr ⟨mt_6 (List.mem_of_getElem? (i := 202) rfl), rfl⟩
set_option maxRecDepth 100000 in
theorem mw_1454 : Cond.code yX7_would cX7_would 4 (some .int) ∈ gw_all := List.mem_filter.mpr ⟨mt_6 (List.mem_of_getElem? (i := 203) rfl), rfl⟩
set_option maxRecDepth 100000 in
theorem mw_1455 : Cond.methodLink RX7 280 yX7_tries ∈ gw_all := List.mem_filter.mpr ⟨mt_6 (List.mem_of_getElem? (i := 204) rfl), rfl⟩
set_option maxRecDepth 100000 in
theorem mw_1457 : Cond.instanceMethod yX7_tries ∈ gw_all := List.mem_filter.mpr ⟨mt_6 (List.mem_of_getElem? (i := 206) rfl), rfl⟩
set_option maxRecDepth 100000 in
theorem mw_1458 : Cond.code yX7_tries cX7_tries 5 (some .int) ∈ gw_all := List.mem_filter.mpr ⟨mt_6 (List.mem_of_getElem? (i := 207) rfl), rfl⟩
set_option maxRecDepth 100000 in
theorem mw_1459 : Cond.methodLink RX7 277 yX7_otherMaps ∈ gw_all := List.mem_filter.mpr ⟨mt_6 (List.mem_of_getElem? (i := 208) rfl), rfl⟩
set_option maxRecDepth 100000 in
theorem mw_1461 : Cond.instanceMethod yX7_otherMaps ∈ gw_all := List.mem_filter.mpr ⟨mt_6 (List.mem_of_getElem? (i := 210) rfl), rfl⟩
set_option maxRecDepth 100000 in
theorem mw_1462 : Cond.code yX7_otherMaps cX7_otherMaps 4 (some .int) ∈ gw_all := List.mem_filter.mpr ⟨mt_6 (List.mem_of_getElem? (i := 211) rfl), rfl⟩
set_option maxRecDepth 100000 in
theorem mw_1463 : Cond.methodLink RL 182 yX7_bestShare ∈ gw_all := List.mem_filter.mpr ⟨mt_6 (List.mem_of_getElem? (i := 212) rfl), rfl⟩
set_option maxRecDepth 100000 in
theorem mw_1464 : Cond.instanceMethod yX7_bestShare ∈ gw_all := List.mem_filter.mpr ⟨mt_6 (List.mem_of_getElem? (i := 213) rfl), rfl⟩
set_option maxRecDepth 100000 in
theorem mw_1465 : Cond.selects RX7 yX7_bestShare yX7_bestShare ∈ gw_all := List.mem_filter.mpr ⟨mt_6 (List.mem_of_getElem? (i := 214) rfl), rfl⟩
set_option maxRecDepth 100000 in
theorem mw_1466 : Cond.code yX7_bestShare cX7_bestShare 6 (some .int) ∈ gw_all := List.mem_filter.mpr ⟨mt_6 (List.mem_of_getElem? (i := 215) rfl), rfl⟩
set_option maxRecDepth 100000 in
theorem mw_1467 : Cond.methodLink RL 186 yX7_ofNet ∈ gw_all := List.mem_filter.mpr ⟨mt_6 (List.mem_of_getElem? (i := 216) rfl), rfl⟩
set_option maxRecDepth 100000 in
theorem mw_1468 : Cond.instanceMethod yX7_ofNet ∈ gw_all := List.mem_filter.mpr ⟨mt_6 (List.mem_of_getElem? (i := 217) rfl), rfl⟩
set_option maxRecDepth 100000 in
theorem mw_1469 : Cond.selects RX7 yX7_ofNet yX7_ofNet ∈ gw_all := List.mem_filter.mpr ⟨mt_6 (List.mem_of_getElem? (i := 218) rfl), rfl⟩
set_option maxRecDepth 100000 in
theorem mw_1470 : Cond.code yX7_ofNet cX7_ofNet 4 (some .int) ∈ gw_all := List.mem_filter.mpr ⟨mt_6 (List.mem_of_getElem? (i := 219) rfl), rfl⟩
set_option maxRecDepth 100000 in
theorem mw_1471 : Cond.methodLink RL 190 yX7_count ∈ gw_all := List.mem_filter.mpr ⟨mt_6 (List.mem_of_getElem? (i := 220) rfl), rfl⟩
set_option maxRecDepth 100000 in
theorem mw_1472 : Cond.instanceMethod yX7_count ∈ gw_all := List.mem_filter.mpr ⟨mt_6 (List.mem_of_getElem? (i := 221) rfl), rfl⟩
set_option maxRecDepth 100000 in
theorem mw_1473 : Cond.selects RX7 yX7_count yX7_count ∈ gw_all := List.mem_filter.mpr ⟨mt_6 (List.mem_of_getElem? (i := 222) rfl), rfl⟩
set_option maxRecDepth 100000 in
theorem mw_1474 : Cond.code yX7_count cX7_count 2 (some .int) ∈ gw_all := List.mem_filter.mpr ⟨mt_6 (List.mem_of_getElem? (i := 223) rfl), rfl⟩
set_option maxRecDepth 100000 in
theorem mw_1475 : Cond.methodLink RX7 283 yX7_heardOfAll ∈ gw_all := List.mem_filter.mpr ⟨mt_6 (List.mem_of_getElem? (i := 224) rfl), rfl⟩
set_option maxRecDepth 100000 in
theorem mw_1477 : Cond.instanceMethod yX7_heardOfAll ∈ gw_all := List.mem_filter.mpr ⟨mt_6 (List.mem_of_getElem? (i := 226) rfl), rfl⟩
set_option maxRecDepth 100000 in
theorem mw_1478 : Cond.code yX7_heardOfAll cX7_heardOfAll 4 (some .int) ∈ gw_all := List.mem_filter.mpr ⟨mt_6 (List.mem_of_getElem? (i := 227) rfl), rfl⟩
set_option maxRecDepth 100000 in
theorem mw_1479 : Cond.constantLong RX7 286 10 ∈ gw_all := List.mem_filter.mpr ⟨mt_6 (List.mem_of_getElem? (i := 228) rfl), rfl⟩
set_option maxRecDepth 100000 in
theorem mw_1480 : Cond.constantLong RX7 288 17 ∈ gw_all := List.mem_filter.mpr ⟨mt_6 (List.mem_of_getElem? (i := 229) rfl), rfl⟩
set_option maxRecDepth 100000 in
theorem mw_1481 : Cond.methodLink RL 194 yX7_status ∈ gw_all := List.mem_filter.mpr ⟨mt_6 (List.mem_of_getElem? (i := 230) rfl), rfl⟩
set_option maxRecDepth 100000 in
theorem mw_1482 : Cond.instanceMethod yX7_status ∈ gw_all := List.mem_filter.mpr ⟨mt_6 (List.mem_of_getElem? (i := 231) rfl), rfl⟩
set_option maxRecDepth 100000 in
theorem mw_1483 : Cond.selects RX7 yX7_status yX7_status ∈ gw_all := List.mem_filter.mpr ⟨mt_6 (List.mem_of_getElem? (i := 232) rfl), rfl⟩
set_option maxRecDepth 100000 in
theorem mw_1484 : Cond.code yX7_status cX7_status 1 (some .int) ∈ gw_all := List.mem_filter.mpr ⟨mt_6 (List.mem_of_getElem? (i := 233) rfl), rfl⟩
