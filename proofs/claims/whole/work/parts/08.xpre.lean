theorem am_mb_0 : am_mb 0 = cX0_init := rfl
theorem am_own_0 : am_own 0 = 0 := rfl
theorem am_np_0 : am_np 0 = 0 := rfl
theorem am_mb_1 : am_mb 1 = cX0_drop := rfl
theorem am_own_1 : am_own 1 = 0 := rfl
theorem am_np_1 : am_np 1 = 0 := rfl
theorem am_mb_2 : am_mb 2 = cX0_addFelt := rfl
theorem am_own_2 : am_own 2 = 0 := rfl
theorem am_np_2 : am_np 2 = 1 := rfl
theorem am_mb_3 : am_mb 3 = cX0_addTold := rfl
theorem am_own_3 : am_own 3 = 0 := rfl
theorem am_np_3 : am_np 3 = 3 := rfl
theorem am_mb_4 : am_mb 4 = cX0_countWays := rfl
theorem am_own_4 : am_own 4 = 0 := rfl
theorem am_np_4 : am_np 4 = 1 := rfl
theorem am_mb_5 : am_mb 5 = cX0_candidates := rfl
theorem am_own_5 : am_own 5 = 0 := rfl
theorem am_np_5 : am_np 5 = 2 := rfl
theorem am_mb_6 : am_mb 6 = cX0_waysToTry := rfl
theorem am_own_6 : am_own 6 = 0 := rfl
theorem am_np_6 : am_np 6 = 1 := rfl
theorem am_mb_7 : am_mb 7 = cX0_thingIn := rfl
theorem am_own_7 : am_own 7 = 0 := rfl
theorem am_np_7 : am_np 7 = 2 := rfl
theorem am_mb_8 : am_mb 8 = cX0_isWay := rfl
theorem am_own_8 : am_own 8 = 0 := rfl
theorem am_np_8 : am_np 8 = 2 := rfl
theorem am_mb_9 : am_mb 9 = cX0_lawsThatFit := rfl
theorem am_own_9 : am_own 9 = 0 := rfl
theorem am_np_9 : am_np 9 = 1 := rfl
theorem am_mb_10 : am_mb 10 = cX0_fitsAll := rfl
theorem am_own_10 : am_own 10 = 0 := rfl
theorem am_np_10 : am_np 10 = 2 := rfl
theorem am_mb_11 : am_mb 11 = cX0_seatByLaw := rfl
theorem am_own_11 : am_own 11 = 0 := rfl
theorem am_np_11 : am_np 11 = 4 := rfl
theorem am_mb_12 : am_mb 12 = cX1_init := rfl
theorem am_own_12 : am_own 12 = 1 := rfl
theorem am_np_12 : am_np 12 = 0 := rfl
theorem am_mb_13 : am_mb 13 = cX1_empty := rfl
theorem am_own_13 : am_own 13 = 1 := rfl
theorem am_np_13 : am_np 13 = 0 := rfl
theorem am_mb_14 : am_mb 14 = cX1_hasSeat := rfl
theorem am_own_14 : am_own 14 = 1 := rfl
theorem am_np_14 : am_np 14 = 1 := rfl
theorem am_mb_15 : am_mb 15 = cX1_hasThing := rfl
theorem am_own_15 : am_own 15 = 1 := rfl
theorem am_np_15 : am_np 15 = 1 := rfl
theorem am_mb_16 : am_mb 16 = cX1_way := rfl
theorem am_own_16 : am_own 16 = 1 := rfl
theorem am_np_16 : am_np 16 = 2 := rfl
theorem am_mb_17 : am_mb 17 = cX1_nearestTo := rfl
theorem am_own_17 : am_own 17 = 1 := rfl
theorem am_np_17 : am_np 17 = 1 := rfl
theorem am_mb_18 : am_mb 18 = cX2_init := rfl
theorem am_own_18 : am_own 18 = 2 := rfl
theorem am_np_18 : am_np 18 = 0 := rfl
theorem am_mb_19 : am_mb 19 = cX2_push := rfl
theorem am_own_19 : am_own 19 = 2 := rfl
theorem am_np_19 : am_np 19 = 1 := rfl
theorem am_mb_20 : am_mb 20 = cX2_popInto := rfl
theorem am_own_20 : am_own 20 = 2 := rfl
theorem am_np_20 : am_np 20 = 1 := rfl
theorem am_mb_21 : am_mb 21 = cX3_init := rfl
theorem am_own_21 : am_own 21 = 3 := rfl
theorem am_np_21 : am_np 21 = 0 := rfl
theorem am_mb_22 : am_mb 22 = cX3_begin := rfl
theorem am_own_22 : am_own 22 = 3 := rfl
theorem am_np_22 : am_np 22 = 1 := rfl
theorem am_mb_23 : am_mb 23 = cX3_become := rfl
theorem am_own_23 : am_own 23 = 3 := rfl
theorem am_np_23 : am_np 23 = 1 := rfl
theorem am_mb_24 : am_mb 24 = cX3_hasRead := rfl
theorem am_own_24 : am_own 24 = 3 := rfl
theorem am_np_24 : am_np 24 = 1 := rfl
theorem am_mb_25 : am_mb 25 = cX3_thingsAt := rfl
theorem am_own_25 : am_own 25 = 3 := rfl
theorem am_np_25 : am_np 25 = 2 := rfl
theorem am_mb_26 : am_mb 26 = cX3_held := rfl
theorem am_own_26 : am_own 26 = 3 := rfl
theorem am_np_26 : am_np 26 = 1 := rfl
theorem am_mb_27 : am_mb 27 = cX3_strays := rfl
theorem am_own_27 : am_own 27 = 3 := rfl
theorem am_np_27 : am_np 27 = 1 := rfl
theorem am_mb_28 : am_mb 28 = cX3_mayTake := rfl
theorem am_own_28 : am_own 28 = 3 := rfl
theorem am_np_28 : am_np 28 = 2 := rfl
theorem am_mb_29 : am_mb 29 = cX3_mayLeave := rfl
theorem am_own_29 : am_own 29 = 3 := rfl
theorem am_np_29 : am_np 29 = 1 := rfl
theorem am_mb_30 : am_mb 30 = cX4_init := rfl
theorem am_own_30 : am_own 30 = 4 := rfl
theorem am_np_30 : am_np 30 = 0 := rfl
theorem am_mb_31 : am_mb 31 = cX4_append := rfl
theorem am_own_31 : am_own 31 = 4 := rfl
theorem am_np_31 : am_np 31 = 1 := rfl
theorem am_mb_32 : am_mb 32 = cX4_tell := rfl
theorem am_own_32 : am_own 32 = 4 := rfl
theorem am_np_32 : am_np 32 = 1 := rfl
theorem am_mb_33 : am_mb 33 = cX4_tellSeat := rfl
theorem am_own_33 : am_own 33 = 4 := rfl
theorem am_np_33 : am_np 33 = 1 := rfl
theorem am_mb_34 : am_mb 34 = cX4_tellThing := rfl
theorem am_own_34 : am_own 34 = 4 := rfl
theorem am_np_34 : am_np 34 = 1 := rfl
theorem am_mb_35 : am_mb 35 = cX4_tellHands := rfl
theorem am_own_35 : am_own 35 = 4 := rfl
theorem am_np_35 : am_np 35 = 1 := rfl
theorem am_mb_36 : am_mb 36 = cX4_tellTen := rfl
theorem am_own_36 : am_own 36 = 4 := rfl
theorem am_np_36 : am_np 36 = 1 := rfl
theorem am_mb_37 : am_mb 37 = cX4_number := rfl
theorem am_own_37 : am_own 37 = 4 := rfl
theorem am_np_37 : am_np 37 = 2 := rfl
theorem am_mb_38 : am_mb 38 = cX4_refuse := rfl
theorem am_own_38 : am_own 38 = 4 := rfl
theorem am_np_38 : am_np 38 = 0 := rfl
theorem am_mb_39 : am_mb 39 = cX4_step := rfl
theorem am_own_39 : am_own 39 = 4 := rfl
theorem am_np_39 : am_np 39 = 0 := rfl
theorem am_mb_40 : am_mb 40 = cX4_stepNumber := rfl
theorem am_own_40 : am_own 40 = 4 := rfl
theorem am_np_40 : am_np 40 = 0 := rfl
theorem am_mb_41 : am_mb 41 = cX4_isDigit := rfl
theorem am_own_41 : am_own 41 = 4 := rfl
theorem am_np_41 : am_np 41 = 1 := rfl
theorem am_mb_42 : am_mb 42 = cX5_init := rfl
theorem am_own_42 : am_own 42 = 5 := rfl
theorem am_np_42 : am_np 42 = 0 := rfl
theorem am_mb_43 : am_mb 43 = cX5_drop := rfl
theorem am_own_43 : am_own 43 = 5 := rfl
theorem am_np_43 : am_np 43 = 0 := rfl
theorem am_mb_44 : am_mb 44 = cX5_fewest := rfl
theorem am_own_44 : am_own 44 = 5 := rfl
theorem am_np_44 : am_np 44 = 3 := rfl
theorem am_mb_45 : am_mb 45 = cX5_firstStep := rfl
theorem am_own_45 : am_own 45 = 5 := rfl
theorem am_np_45 : am_np 45 = 2 := rfl
theorem am_mb_46 : am_mb 46 = cX5_stateOf := rfl
theorem am_own_46 : am_own 46 = 5 := rfl
theorem am_np_46 : am_np 46 = 2 := rfl
theorem am_mb_47 : am_mb 47 = cX5_digitOf := rfl
theorem am_own_47 : am_own 47 = 5 := rfl
theorem am_np_47 : am_np 47 = 3 := rfl
theorem am_mb_48 : am_mb 48 = cX5_minutes := rfl
theorem am_own_48 : am_own 48 = 5 := rfl
theorem am_np_48 : am_np 48 = 2 := rfl
theorem am_mb_49 : am_mb 49 = cX5_setMinutes := rfl
theorem am_own_49 : am_own 49 = 5 := rfl
theorem am_np_49 : am_np 49 = 3 := rfl
theorem am_mb_50 : am_mb 50 = cX5_search := rfl
theorem am_own_50 : am_own 50 = 5 := rfl
theorem am_np_50 : am_np 50 = 2 := rfl
theorem am_mb_51 : am_mb 51 = cX5_offerEnds := rfl
theorem am_own_51 : am_own 51 = 5 := rfl
theorem am_np_51 : am_np 51 = 1 := rfl
theorem am_mb_52 : am_mb 52 = cX5_weigh := rfl
theorem am_own_52 : am_own 52 = 5 := rfl
theorem am_np_52 : am_np 52 = 3 := rfl
theorem am_mb_53 : am_mb 53 = cX5_readDigits := rfl
theorem am_own_53 : am_own 53 = 5 := rfl
theorem am_np_53 : am_np 53 = 1 := rfl
theorem am_mb_54 : am_mb 54 = cX5_offer := rfl
theorem am_own_54 : am_own 54 = 5 := rfl
theorem am_np_54 : am_np 54 = 2 := rfl
theorem am_mb_55 : am_mb 55 = cX5_chain := rfl
theorem am_own_55 : am_own 55 = 5 := rfl
theorem am_np_55 : am_np 55 = 2 := rfl
theorem am_mb_56 : am_mb 56 = cX5_unchain := rfl
theorem am_own_56 : am_own 56 = 5 := rfl
theorem am_np_56 : am_np 56 = 2 := rfl
theorem am_mb_57 : am_mb 57 = cX6_init := rfl
theorem am_own_57 : am_own 57 = 6 := rfl
theorem am_np_57 : am_np 57 = 0 := rfl
theorem am_mb_58 : am_mb 58 = cX6_type := rfl
theorem am_own_58 : am_own 58 = 6 := rfl
theorem am_np_58 : am_np 58 = 1 := rfl
theorem am_mb_59 : am_mb 59 = cX6_clear := rfl
theorem am_own_59 : am_own 59 = 6 := rfl
theorem am_np_59 : am_np 59 = 0 := rfl
theorem am_mb_60 : am_mb 60 = cX6_hall := rfl
theorem am_own_60 : am_own 60 = 6 := rfl
theorem am_np_60 : am_np 60 = 0 := rfl
theorem am_mb_61 : am_mb 61 = cX6_beginAnew := rfl
theorem am_own_61 : am_own 61 = 6 := rfl
theorem am_np_61 : am_np 61 = 0 := rfl
theorem am_mb_62 : am_mb 62 = cX6_seat := rfl
theorem am_own_62 : am_own 62 = 6 := rfl
theorem am_np_62 : am_np 62 = 2 := rfl
theorem am_mb_63 : am_mb 63 = cX6_thing := rfl
theorem am_own_63 : am_own 63 = 6 := rfl
theorem am_np_63 : am_np 63 = 2 := rfl
theorem am_mb_64 : am_mb 64 = cX6_now := rfl
theorem am_own_64 : am_own 64 = 6 := rfl
theorem am_np_64 : am_np 64 = 1 := rfl
theorem am_mb_65 : am_mb 65 = cX6_goes := rfl
theorem am_own_65 : am_own 65 = 6 := rfl
theorem am_np_65 : am_np 65 = 1 := rfl
theorem am_mb_66 : am_mb 66 = cX6_takes := rfl
theorem am_own_66 : am_own 66 = 6 := rfl
theorem am_np_66 : am_np 66 = 1 := rfl
theorem am_mb_67 : am_mb 67 = cX6_leaves := rfl
theorem am_own_67 : am_own 67 = 6 := rfl
theorem am_np_67 : am_np 67 = 1 := rfl
theorem am_mb_68 : am_mb 68 = cX6_encores := rfl
theorem am_own_68 : am_own 68 = 6 := rfl
theorem am_np_68 : am_np 68 = 1 := rfl
theorem am_mb_69 : am_mb 69 = cX6_undo := rfl
theorem am_own_69 : am_own 69 = 6 := rfl
theorem am_np_69 : am_np 69 = 0 := rfl
theorem am_mb_70 : am_mb 70 = cX6_back := rfl
theorem am_own_70 : am_own 70 = 6 := rfl
theorem am_np_70 : am_np 70 = 1 := rfl
theorem am_mb_71 : am_mb 71 = cX6_left := rfl
theorem am_own_71 : am_own 71 = 6 := rfl
theorem am_np_71 : am_np 71 = 0 := rfl
theorem am_mb_72 : am_mb 72 = cX6_see := rfl
theorem am_own_72 : am_own 72 = 6 := rfl
theorem am_np_72 : am_np 72 = 0 := rfl
theorem am_mb_73 : am_mb 73 = cX6_seenBy := rfl
theorem am_own_73 : am_own 73 = 6 := rfl
theorem am_np_73 : am_np 73 = 1 := rfl
theorem am_mb_74 : am_mb 74 = cX6_odds := rfl
theorem am_own_74 : am_own 74 = 6 := rfl
theorem am_np_74 : am_np 74 = 3 := rfl
theorem am_mb_75 : am_mb 75 = cX6_countOutcomes := rfl
theorem am_own_75 : am_own 75 = 6 := rfl
theorem am_np_75 : am_np 75 = 2 := rfl
theorem am_mb_76 : am_mb 76 = cX6_commonDivisor := rfl
theorem am_own_76 : am_own 76 = 6 := rfl
theorem am_np_76 : am_np 76 = 2 := rfl
theorem am_mb_77 : am_mb 77 = cX6_knows := rfl
theorem am_own_77 : am_own 77 = 6 := rfl
theorem am_np_77 : am_np 77 = 1 := rfl
theorem am_mb_78 : am_mb 78 = cX6_joinTopics := rfl
theorem am_own_78 : am_own 78 = 6 := rfl
theorem am_np_78 : am_np 78 = 0 := rfl
theorem am_mb_79 : am_mb 79 = cX6_joinGroups := rfl
theorem am_own_79 : am_own 79 = 6 := rfl
theorem am_np_79 : am_np 79 = 1 := rfl
theorem am_mb_80 : am_mb 80 = cX6_felt := rfl
theorem am_own_80 : am_own 80 = 6 := rfl
theorem am_np_80 : am_np 80 = 1 := rfl
theorem am_mb_81 : am_mb 81 = cX6_whose := rfl
theorem am_own_81 : am_own 81 = 6 := rfl
theorem am_np_81 : am_np 81 = 1 := rfl
theorem am_mb_82 : am_mb 82 = cX6_tells := rfl
theorem am_own_82 : am_own 82 = 6 := rfl
theorem am_np_82 : am_np 82 = 3 := rfl
theorem am_mb_83 : am_mb 83 = cX6_fits := rfl
theorem am_own_83 : am_own 83 = 6 := rfl
theorem am_np_83 : am_np 83 = 0 := rfl
theorem am_mb_84 : am_mb 84 = cX6_forget := rfl
theorem am_own_84 : am_own 84 = 6 := rfl
theorem am_np_84 : am_np 84 = 0 := rfl
theorem am_mb_85 : am_mb 85 = cX6_rate := rfl
theorem am_own_85 : am_own 85 = 6 := rfl
theorem am_np_85 : am_np 85 = 2 := rfl
theorem am_mb_86 : am_mb 86 = cX6_rateThing := rfl
theorem am_own_86 : am_own 86 = 6 := rfl
theorem am_np_86 : am_np 86 = 1 := rfl
theorem am_mb_87 : am_mb 87 = cX6_rateComb := rfl
theorem am_own_87 : am_own 87 = 6 := rfl
theorem am_np_87 : am_np 87 = 1 := rfl
theorem am_mb_88 : am_mb 88 = cX6_rateRoom := rfl
theorem am_own_88 : am_own 88 = 6 := rfl
theorem am_np_88 : am_np 88 = 1 := rfl
theorem am_mb_89 : am_mb 89 = cX6_rateCurate := rfl
theorem am_own_89 : am_own 89 = 6 := rfl
theorem am_np_89 : am_np 89 = 1 := rfl
theorem am_mb_90 : am_mb 90 = cX6_rateBishop := rfl
theorem am_own_90 : am_own 90 = 6 := rfl
theorem am_np_90 : am_np 90 = 1 := rfl
theorem am_mb_91 : am_mb 91 = cX6_rateTwin := rfl
theorem am_own_91 : am_own 91 = 6 := rfl
theorem am_np_91 : am_np 91 = 1 := rfl
theorem am_mb_92 : am_mb 92 = cX6_keep := rfl
theorem am_own_92 : am_own 92 = 6 := rfl
theorem am_np_92 : am_np 92 = 1 := rfl
theorem am_mb_93 : am_mb 93 = cX6_again := rfl
theorem am_own_93 : am_own 93 = 6 := rfl
theorem am_np_93 : am_np 93 = 1 := rfl
theorem am_mb_94 : am_mb 94 = cX6_count := rfl
theorem am_own_94 : am_own 94 = 6 := rfl
theorem am_np_94 : am_np 94 = 1 := rfl
theorem am_mb_95 : am_mb 95 = cX6_trace := rfl
theorem am_own_95 : am_own 95 = 6 := rfl
theorem am_np_95 : am_np 95 = 0 := rfl
theorem am_mb_96 : am_mb 96 = cX7_init := rfl
theorem am_own_96 : am_own 96 = 7 := rfl
theorem am_np_96 : am_np 96 = 0 := rfl
theorem am_mb_97 : am_mb 97 = cX7_in := rfl
theorem am_own_97 : am_own 97 = 7 := rfl
theorem am_np_97 : am_np 97 = 3 := rfl
theorem am_mb_98 : am_mb 98 = cX7_has := rfl
theorem am_own_98 : am_own 98 = 7 := rfl
theorem am_np_98 : am_np 98 = 2 := rfl
theorem am_mb_99 : am_mb 99 = cX7_bits := rfl
theorem am_own_99 : am_own 99 = 7 := rfl
theorem am_np_99 : am_np 99 = 1 := rfl
theorem am_mb_100 : am_mb 100 = cX7_size := rfl
theorem am_own_100 : am_own 100 = 7 := rfl
theorem am_np_100 : am_np 100 = 1 := rfl
theorem am_mb_101 : am_mb 101 = cX7_isSeat := rfl
theorem am_own_101 : am_own 101 = 7 := rfl
theorem am_np_101 : am_np 101 = 1 := rfl
theorem am_mb_102 : am_mb 102 = cX7_isThing := rfl
theorem am_own_102 : am_own 102 = 7 := rfl
theorem am_np_102 : am_np 102 = 1 := rfl
theorem am_mb_103 : am_mb 103 = cX7_copy := rfl
theorem am_own_103 : am_own 103 = 7 := rfl
theorem am_np_103 : am_np 103 = 4 := rfl
theorem am_mb_104 : am_mb 104 = cX7_type := rfl
theorem am_own_104 : am_own 104 = 7 := rfl
theorem am_np_104 : am_np 104 = 1 := rfl
theorem am_mb_105 : am_mb 105 = cX7_clear := rfl
theorem am_own_105 : am_own 105 = 7 := rfl
theorem am_np_105 : am_np 105 = 0 := rfl
theorem am_mb_106 : am_mb 106 = cX7_letterAt := rfl
theorem am_own_106 : am_own 106 = 7 := rfl
theorem am_np_106 : am_np 106 = 1 := rfl
theorem am_mb_107 : am_mb 107 = cX7_isFigure := rfl
theorem am_own_107 : am_own 107 = 7 := rfl
theorem am_np_107 : am_np 107 = 1 := rfl
theorem am_mb_108 : am_mb 108 = cX7_next := rfl
theorem am_own_108 : am_own 108 = 7 := rfl
theorem am_np_108 : am_np 108 = 0 := rfl
theorem am_mb_109 : am_mb 109 = cX7_takesNumber := rfl
theorem am_own_109 : am_own 109 = 7 := rfl
theorem am_np_109 : am_np 109 = 2 := rfl
theorem am_mb_110 : am_mb 110 = cX7_readSeat := rfl
theorem am_own_110 : am_own 110 = 7 := rfl
theorem am_np_110 : am_np 110 = 0 := rfl
theorem am_mb_111 : am_mb 111 = cX7_readThing := rfl
theorem am_own_111 : am_own 111 = 7 := rfl
theorem am_np_111 : am_np 111 = 0 := rfl
theorem am_mb_112 : am_mb 112 = cX7_readItem := rfl
theorem am_own_112 : am_own 112 = 7 := rfl
theorem am_np_112 : am_np 112 = 0 := rfl
theorem am_mb_113 : am_mb 113 = cX7_hall := rfl
theorem am_own_113 : am_own 113 = 7 := rfl
theorem am_np_113 : am_np 113 = 0 := rfl
theorem am_mb_114 : am_mb 114 = cX7_settles := rfl
theorem am_own_114 : am_own 114 = 7 := rfl
theorem am_np_114 : am_np 114 = 0 := rfl
theorem am_mb_115 : am_mb 115 = cX7_way := rfl
theorem am_own_115 : am_own 115 = 7 := rfl
theorem am_np_115 : am_np 115 = 2 := rfl
theorem am_mb_116 : am_mb 116 = cX7_inMind := rfl
theorem am_own_116 : am_own 116 = 7 := rfl
theorem am_np_116 : am_np 116 = 1 := rfl
theorem am_mb_117 : am_mb 117 = cX7_strays := rfl
theorem am_own_117 : am_own 117 = 7 := rfl
theorem am_np_117 : am_np 117 = 0 := rfl
theorem am_mb_118 : am_mb 118 = cX7_seat := rfl
theorem am_own_118 : am_own 118 = 7 := rfl
theorem am_np_118 : am_np 118 = 2 := rfl
theorem am_mb_119 : am_mb 119 = cX7_orNone := rfl
theorem am_own_119 : am_own 119 = 7 := rfl
theorem am_np_119 : am_np 119 = 1 := rfl
theorem am_mb_120 : am_mb 120 = cX7_thing := rfl
theorem am_own_120 : am_own 120 = 7 := rfl
theorem am_np_120 : am_np 120 = 2 := rfl
theorem am_mb_121 : am_mb 121 = cX7_now := rfl
theorem am_own_121 : am_own 121 = 7 := rfl
theorem am_np_121 : am_np 121 = 1 := rfl
theorem am_mb_122 : am_mb 122 = cX7_remembers := rfl
theorem am_own_122 : am_own 122 = 7 := rfl
theorem am_np_122 : am_np 122 = 0 := rfl
theorem am_mb_123 : am_mb 123 = cX7_goes := rfl
theorem am_own_123 : am_own 123 = 7 := rfl
theorem am_np_123 : am_np 123 = 1 := rfl
theorem am_mb_124 : am_mb 124 = cX7_takes := rfl
theorem am_own_124 : am_own 124 = 7 := rfl
theorem am_np_124 : am_np 124 = 1 := rfl
theorem am_mb_125 : am_mb 125 = cX7_leaves := rfl
theorem am_own_125 : am_own 125 = 7 := rfl
theorem am_np_125 : am_np 125 = 1 := rfl
theorem am_mb_126 : am_mb 126 = cX7_encores := rfl
theorem am_own_126 : am_own 126 = 7 := rfl
theorem am_np_126 : am_np 126 = 1 := rfl
theorem am_mb_127 : am_mb 127 = cX7_undo := rfl
theorem am_own_127 : am_own 127 = 7 := rfl
theorem am_np_127 : am_np 127 = 0 := rfl
theorem am_mb_128 : am_mb 128 = cX7_fives := rfl
theorem am_own_128 : am_own 128 = 7 := rfl
theorem am_np_128 : am_np 128 = 1 := rfl
theorem am_mb_129 : am_mb 129 = cX7_whereIn := rfl
theorem am_own_129 : am_own 129 = 7 := rfl
theorem am_np_129 : am_np 129 = 2 := rfl
theorem am_mb_130 : am_mb 130 = cX7_comesBy := rfl
theorem am_own_130 : am_own 130 = 7 := rfl
theorem am_np_130 : am_np 130 = 2 := rfl
theorem am_mb_131 : am_mb 131 = cX7_handsOf := rfl
theorem am_own_131 : am_own 131 = 7 := rfl
theorem am_np_131 : am_np 131 = 1 := rfl
theorem am_mb_132 : am_mb 132 = cX7_goesBack := rfl
theorem am_own_132 : am_own 132 = 7 := rfl
theorem am_np_132 : am_np 132 = 1 := rfl
theorem am_mb_133 : am_mb 133 = cX7_isBack := rfl
theorem am_own_133 : am_own 133 = 7 := rfl
theorem am_np_133 : am_np 133 = 1 := rfl
theorem am_mb_134 : am_mb 134 = cX7_finds := rfl
theorem am_own_134 : am_own 134 = 7 := rfl
theorem am_np_134 : am_np 134 = 0 := rfl
theorem am_mb_135 : am_mb 135 = cX7_nowAs := rfl
theorem am_own_135 : am_own 135 = 7 := rfl
theorem am_np_135 : am_np 135 = 0 := rfl
theorem am_mb_136 : am_mb 136 = cX7_leastWith := rfl
theorem am_own_136 : am_own 136 = 7 := rfl
theorem am_np_136 : am_np 136 = 1 := rfl
theorem am_mb_137 : am_mb 137 = cX7_back := rfl
theorem am_own_137 : am_own 137 = 7 := rfl
theorem am_np_137 : am_np 137 = 1 := rfl
theorem am_mb_138 : am_mb 138 = cX7_left := rfl
theorem am_own_138 : am_own 138 = 7 := rfl
theorem am_np_138 : am_np 138 = 0 := rfl
theorem am_mb_139 : am_mb 139 = cX7_see := rfl
theorem am_own_139 : am_own 139 = 7 := rfl
theorem am_np_139 : am_np 139 = 0 := rfl
theorem am_mb_140 : am_mb 140 = cX7_seenBy := rfl
theorem am_own_140 : am_own 140 = 7 := rfl
theorem am_np_140 : am_np 140 = 1 := rfl
theorem am_mb_141 : am_mb 141 = cX7_lowest := rfl
theorem am_own_141 : am_own 141 = 7 := rfl
theorem am_np_141 : am_np 141 = 3 := rfl
theorem am_mb_142 : am_mb 142 = cX7_odds := rfl
theorem am_own_142 : am_own 142 = 7 := rfl
theorem am_np_142 : am_np 142 = 3 := rfl
theorem am_mb_143 : am_mb 143 = cX7_knows := rfl
theorem am_own_143 : am_own 143 = 7 := rfl
theorem am_np_143 : am_np 143 = 1 := rfl
theorem am_mb_144 : am_mb 144 = cX7_felt := rfl
theorem am_own_144 : am_own 144 = 7 := rfl
theorem am_np_144 : am_np 144 = 1 := rfl
theorem am_mb_145 : am_mb 145 = cX7_isWay := rfl
theorem am_own_145 : am_own 145 = 7 := rfl
theorem am_np_145 : am_np 145 = 1 := rfl
theorem am_mb_146 : am_mb 146 = cX7_whose := rfl
theorem am_own_146 : am_own 146 = 7 := rfl
theorem am_np_146 : am_np 146 = 1 := rfl
theorem am_mb_147 : am_mb 147 = cX7_tells := rfl
theorem am_own_147 : am_own 147 = 7 := rfl
theorem am_np_147 : am_np 147 = 3 := rfl
theorem am_mb_148 : am_mb 148 = cX7_nearestTo := rfl
theorem am_own_148 : am_own 148 = 7 := rfl
theorem am_np_148 : am_np 148 = 1 := rfl
theorem am_mb_149 : am_mb 149 = cX7_fits := rfl
theorem am_own_149 : am_own 149 = 7 := rfl
theorem am_np_149 : am_np 149 = 0 := rfl
theorem am_mb_150 : am_mb 150 = cX7_forget := rfl
theorem am_own_150 : am_own 150 = 7 := rfl
theorem am_np_150 : am_np 150 = 0 := rfl
theorem am_mb_151 : am_mb 151 = cX7_rate := rfl
theorem am_own_151 : am_own 151 = 7 := rfl
theorem am_np_151 : am_np 151 = 2 := rfl
theorem am_mb_152 : am_mb 152 = cX7_keep := rfl
theorem am_own_152 : am_own 152 = 7 := rfl
theorem am_np_152 : am_np 152 = 1 := rfl
theorem am_mb_153 : am_mb 153 = cX7_again := rfl
theorem am_own_153 : am_own 153 = 7 := rfl
theorem am_np_153 : am_np 153 = 1 := rfl
theorem am_mb_154 : am_mb 154 = cX7_count := rfl
theorem am_own_154 : am_own 154 = 7 := rfl
theorem am_np_154 : am_np 154 = 1 := rfl
theorem am_mb_155 : am_mb 155 = cX7_trace := rfl
theorem am_own_155 : am_own 155 = 7 := rfl
theorem am_np_155 : am_np 155 = 0 := rfl
theorem am_mb_156 : am_mb 156 = cJ6_bitCount_0f7a4 := rfl
theorem am_own_156 : am_own 156 = 8 := rfl
theorem am_np_156 : am_np 156 = 1 := rfl
theorem am_mb_157 : am_mb 157 = cJ13_bitCount_95d88 := rfl
theorem am_own_157 : am_own 157 = 9 := rfl
theorem am_np_157 : am_np 157 = 1 := rfl
theorem am_mb_158 : am_mb 158 = cJ7_fill_53178 := rfl
theorem am_own_158 : am_own 158 = 11 := rfl
theorem am_np_158 : am_np 158 = 2 := rfl
theorem am_mb_159 : am_mb 159 = cL_law := rfl
theorem am_own_159 : am_own 159 = 12 := rfl
theorem am_np_159 : am_np 159 = 1 := rfl
theorem am_f_119 : am_FT.lookup 119 = some (7, 1) := by decide +kernel
theorem am_f_144 : am_FT.lookup 144 = some (0, 0) := by decide +kernel
theorem am_f_145 : am_FT.lookup 145 = some (1, 6) := by decide +kernel
theorem am_f_147 : am_FT.lookup 147 = some (3, 0) := by decide +kernel
theorem am_f_178 : am_FT.lookup 178 = some (2, 0) := by decide +kernel
theorem am_f_180 : am_FT.lookup 180 = some (4, 0) := by decide +kernel
theorem am_f_181 : am_FT.lookup 181 = some (5, 0) := by decide +kernel
theorem am_f_198 : am_FT.lookup 198 = some (6, 0) := by decide +kernel
theorem am_f_215 : am_FT.lookup 215 = some (7, 3) := by decide +kernel
theorem am_f_240 : am_FT.lookup 240 = some (0, 1) := by decide +kernel
theorem am_f_241 : am_FT.lookup 241 = some (1, 7) := by decide +kernel
theorem am_f_243 : am_FT.lookup 243 = some (3, 1) := by decide +kernel
theorem am_f_244 : am_FT.lookup 244 = some (4, 1) := by decide +kernel
theorem am_f_245 : am_FT.lookup 245 = some (5, 1) := by decide +kernel
theorem am_f_263 : am_FT.lookup 263 = some (7, 4) := by decide +kernel
theorem am_f_274 : am_FT.lookup 274 = some (2, 1) := by decide +kernel
theorem am_f_288 : am_FT.lookup 288 = some (0, 2) := by decide +kernel
theorem am_f_289 : am_FT.lookup 289 = some (1, 8) := by decide +kernel
theorem am_f_291 : am_FT.lookup 291 = some (3, 2) := by decide +kernel
theorem am_f_309 : am_FT.lookup 309 = some (5, 2) := by decide +kernel
theorem am_f_310 : am_FT.lookup 310 = some (6, 1) := by decide +kernel
theorem am_f_327 : am_FT.lookup 327 = some (7, 5) := by decide +kernel
theorem am_f_337 : am_FT.lookup 337 = some (1, 9) := by decide +kernel
theorem am_f_338 : am_FT.lookup 338 = some (2, 2) := by decide +kernel
theorem am_f_339 : am_FT.lookup 339 = some (3, 3) := by decide +kernel
theorem am_f_352 : am_FT.lookup 352 = some (0, 3) := by decide +kernel
theorem am_f_357 : am_FT.lookup 357 = some (5, 3) := by decide +kernel
theorem am_f_374 : am_FT.lookup 374 = some (6, 2) := by decide +kernel
theorem am_f_375 : am_FT.lookup 375 = some (7, 6) := by decide +kernel
theorem am_f_385 : am_FT.lookup 385 = some (1, 10) := by decide +kernel
theorem am_f_388 : am_FT.lookup 388 = some (4, 2) := by decide +kernel
theorem am_f_400 : am_FT.lookup 400 = some (0, 4) := by decide +kernel
theorem am_f_403 : am_FT.lookup 403 = some (1, 8) := by decide +kernel
theorem am_f_405 : am_FT.lookup 405 = some (5, 4) := by decide +kernel
theorem am_f_423 : am_FT.lookup 423 = some (7, 7) := by decide +kernel
theorem am_f_433 : am_FT.lookup 433 = some (1, 11) := by decide +kernel
theorem am_f_436 : am_FT.lookup 436 = some (4, 3) := by decide +kernel
theorem am_f_448 : am_FT.lookup 448 = some (0, 5) := by decide +kernel
theorem am_f_453 : am_FT.lookup 453 = some (5, 5) := by decide +kernel
theorem am_f_470 : am_FT.lookup 470 = some (6, 3) := by decide +kernel
theorem am_f_471 : am_FT.lookup 471 = some (7, 9) := by decide +kernel
theorem am_f_517 : am_FT.lookup 517 = some (5, 6) := by decide +kernel
theorem am_f_519 : am_FT.lookup 519 = some (7, 10) := by decide +kernel
theorem am_f_529 : am_FT.lookup 529 = some (1, 0) := by decide +kernel
theorem am_f_532 : am_FT.lookup 532 = some (4, 5) := by decide +kernel
theorem am_f_579 : am_FT.lookup 579 = some (1, 1) := by decide +kernel
theorem am_f_582 : am_FT.lookup 582 = some (6, 4) := by decide +kernel
theorem am_f_583 : am_FT.lookup 583 = some (7, 12) := by decide +kernel
theorem am_f_593 : am_FT.lookup 593 = some (1, 1) := by decide +kernel
theorem am_f_631 : am_FT.lookup 631 = some (7, 14) := by decide +kernel
theorem am_f_641 : am_FT.lookup 641 = some (1, 2) := by decide +kernel
theorem am_f_646 : am_FT.lookup 646 = some (6, 5) := by decide +kernel
theorem am_f_679 : am_FT.lookup 679 = some (7, 16) := by decide +kernel
theorem am_f_688 : am_FT.lookup 688 = some (1, 1) := by decide +kernel
theorem am_f_689 : am_FT.lookup 689 = some (1, 3) := by decide +kernel
theorem am_f_710 : am_FT.lookup 710 = some (6, 6) := by decide +kernel
theorem am_f_727 : am_FT.lookup 727 = some (7, 25) := by decide +kernel
theorem am_f_737 : am_FT.lookup 737 = some (1, 4) := by decide +kernel
theorem am_f_775 : am_FT.lookup 775 = some (7, 27) := by decide +kernel
theorem am_f_801 : am_FT.lookup 801 = some (1, 5) := by decide +kernel
theorem am_f_821 : am_FT.lookup 821 = some (1, 0) := by decide +kernel
theorem am_f_822 : am_FT.lookup 822 = some (6, 7) := by decide +kernel
theorem am_f_832 : am_FT.lookup 832 = some (1, 9) := by decide +kernel
theorem am_f_836 : am_FT.lookup 836 = some (1, 0) := by decide +kernel
theorem am_f_839 : am_FT.lookup 839 = some (7, 30) := by decide +kernel
theorem am_f_851 : am_FT.lookup 851 = some (1, 2) := by decide +kernel
theorem am_f_884 : am_FT.lookup 884 = some (1, 6) := by decide +kernel
theorem am_f_887 : am_FT.lookup 887 = some (7, 36) := by decide +kernel
theorem am_f_901 : am_FT.lookup 901 = some (3, 1) := by decide +kernel
theorem am_f_934 : am_FT.lookup 934 = some (6, 8) := by decide +kernel
theorem am_f_935 : am_FT.lookup 935 = some (7, 37) := by decide +kernel
theorem am_f_983 : am_FT.lookup 983 = some (7, 0) := by decide +kernel
theorem am_f_998 : am_FT.lookup 998 = some (6, 9) := by decide +kernel
theorem am_f_1012 : am_FT.lookup 1012 = some (1, 7) := by decide +kernel
theorem am_f_1029 : am_FT.lookup 1029 = some (1, 1) := by decide +kernel
theorem am_f_1060 : am_FT.lookup 1060 = some (1, 1) := by decide +kernel
theorem am_f_1062 : am_FT.lookup 1062 = some (6, 10) := by decide +kernel
theorem am_f_1088 : am_FT.lookup 1088 = some (1, 8) := by decide +kernel
theorem am_f_1095 : am_FT.lookup 1095 = some (7, 2) := by decide +kernel
theorem am_f_1108 : am_FT.lookup 1108 = some (1, 8) := by decide +kernel
theorem am_f_1110 : am_FT.lookup 1110 = some (6, 11) := by decide +kernel
theorem am_f_1143 : am_FT.lookup 1143 = some (7, 17) := by decide +kernel
theorem am_f_1156 : am_FT.lookup 1156 = some (1, 9) := by decide +kernel
theorem am_f_1184 : am_FT.lookup 1184 = some (1, 0) := by decide +kernel
theorem am_f_1191 : am_FT.lookup 1191 = some (7, 18) := by decide +kernel
theorem am_f_1204 : am_FT.lookup 1204 = some (1, 10) := by decide +kernel
theorem am_f_1238 : am_FT.lookup 1238 = some (4, 1) := by decide +kernel
theorem am_f_1252 : am_FT.lookup 1252 = some (1, 11) := by decide +kernel
theorem am_f_1300 : am_FT.lookup 1300 = some (1, 4) := by decide +kernel
theorem am_f_1303 : am_FT.lookup 1303 = some (7, 19) := by decide +kernel
theorem am_f_1351 : am_FT.lookup 1351 = some (7, 21) := by decide +kernel
theorem am_f_1364 : am_FT.lookup 1364 = some (1, 2) := by decide +kernel
theorem am_f_1366 : am_FT.lookup 1366 = some (4, 2) := by decide +kernel
theorem am_f_1397 : am_FT.lookup 1397 = some (3, 3) := by decide +kernel
theorem am_f_1399 : am_FT.lookup 1399 = some (7, 20) := by decide +kernel
theorem am_f_1412 : am_FT.lookup 1412 = some (1, 5) := by decide +kernel
theorem am_f_1460 : am_FT.lookup 1460 = some (1, 3) := by decide +kernel
theorem am_f_1508 : am_FT.lookup 1508 = some (4, 6) := by decide +kernel
theorem am_f_1511 : am_FT.lookup 1511 = some (7, 22) := by decide +kernel
theorem am_f_1526 : am_FT.lookup 1526 = some (2, 1) := by decide +kernel
theorem am_f_1556 : am_FT.lookup 1556 = some (4, 4) := by decide +kernel
theorem am_f_1623 : am_FT.lookup 1623 = some (7, 24) := by decide +kernel
theorem am_f_1702 : am_FT.lookup 1702 = some (1, 6) := by decide +kernel
theorem am_f_1735 : am_FT.lookup 1735 = some (7, 26) := by decide +kernel
theorem am_f_1750 : am_FT.lookup 1750 = some (1, 7) := by decide +kernel
theorem am_f_1783 : am_FT.lookup 1783 = some (7, 28) := by decide +kernel
theorem am_f_1831 : am_FT.lookup 1831 = some (7, 29) := by decide +kernel
theorem am_f_1862 : am_FT.lookup 1862 = some (3, 1) := by decide +kernel
theorem am_f_1957 : am_FT.lookup 1957 = some (1, 8) := by decide +kernel
theorem am_f_1975 : am_FT.lookup 1975 = some (7, 23) := by decide +kernel
theorem am_f_2022 : am_FT.lookup 2022 = some (1, 8) := by decide +kernel
theorem am_f_2070 : am_FT.lookup 2070 = some (1, 9) := by decide +kernel
theorem am_f_2101 : am_FT.lookup 2101 = some (1, 2) := by decide +kernel
theorem am_f_2118 : am_FT.lookup 2118 = some (1, 10) := by decide +kernel
theorem am_f_2119 : am_FT.lookup 2119 = some (7, 31) := by decide +kernel
theorem am_f_2166 : am_FT.lookup 2166 = some (1, 11) := by decide +kernel
theorem am_f_2167 : am_FT.lookup 2167 = some (7, 8) := by decide +kernel
theorem am_f_2214 : am_FT.lookup 2214 = some (3, 3) := by decide +kernel
theorem am_f_2215 : am_FT.lookup 2215 = some (7, 11) := by decide +kernel
theorem am_f_2263 : am_FT.lookup 2263 = some (7, 13) := by decide +kernel
theorem am_f_2310 : am_FT.lookup 2310 = some (3, 0) := by decide +kernel
theorem am_f_2406 : am_FT.lookup 2406 = some (3, 2) := by decide +kernel
theorem am_f_2870 : am_FT.lookup 2870 = some (1, 3) := by decide +kernel
theorem am_f_2871 : am_FT.lookup 2871 = some (7, 34) := by decide +kernel
theorem am_f_2918 : am_FT.lookup 2918 = some (1, 1) := by decide +kernel
theorem am_f_2919 : am_FT.lookup 2919 = some (7, 35) := by decide +kernel
theorem am_f_2967 : am_FT.lookup 2967 = some (7, 33) := by decide +kernel
theorem am_f_3175 : am_FT.lookup 3175 = some (7, 32) := by decide +kernel
theorem am_f_3638 : am_FT.lookup 3638 = some (0, 0) := by decide +kernel
theorem am_f_3735 : am_FT.lookup 3735 = some (7, 15) := by decide +kernel
theorem am_f_3862 : am_FT.lookup 3862 = some (0, 1) := by decide +kernel
theorem am_f_4470 : am_FT.lookup 4470 = some (1, 0) := by decide +kernel
theorem am_f_4518 : am_FT.lookup 4518 = some (1, 2) := by decide +kernel
theorem am_m_23 : am_MT.lookup 23 = some (8, 0) := by decide +kernel
theorem am_m_48 : am_MT.lookup 48 = some (8, 0) := by decide +kernel
theorem am_m_49 : am_MT.lookup 49 = some (8, 0) := by decide +kernel
theorem am_m_50 : am_MT.lookup 50 = some (8, 0) := by decide +kernel
theorem am_m_51 : am_MT.lookup 51 = some (8, 0) := by decide +kernel
theorem am_m_52 : am_MT.lookup 52 = some (8, 0) := by decide +kernel
theorem am_m_54 : am_MT.lookup 54 = some (8, 0) := by decide +kernel
theorem am_m_85 : am_MT.lookup 85 = some (8, 0) := by decide +kernel
theorem am_m_156 : am_MT.lookup 156 = some (2, 57) := by decide +kernel
theorem am_m_182 : am_MT.lookup 182 = some (3, 30) := by decide +kernel
theorem am_m_204 : am_MT.lookup 204 = some (2, 96) := by decide +kernel
theorem am_m_220 : am_MT.lookup 220 = some (0, 58) := by decide +kernel
theorem am_m_284 : am_MT.lookup 284 = some (0, 104) := by decide +kernel
theorem am_m_294 : am_MT.lookup 294 = some (2, 12) := by decide +kernel
theorem am_m_300 : am_MT.lookup 300 = some (0, 59) := by decide +kernel
theorem am_m_308 : am_MT.lookup 308 = some (0, 13) := by decide +kernel
theorem am_m_364 : am_MT.lookup 364 = some (0, 105) := by decide +kernel
theorem am_m_380 : am_MT.lookup 380 = some (0, 60) := by decide +kernel
theorem am_m_386 : am_MT.lookup 386 = some (3, 21) := by decide +kernel
theorem am_m_402 : am_MT.lookup 402 = some (0, 23) := by decide +kernel
theorem am_m_428 : am_MT.lookup 428 = some (0, 113) := by decide +kernel
theorem am_m_444 : am_MT.lookup 444 = some (0, 62) := by decide +kernel
theorem am_m_454 : am_MT.lookup 454 = some (3, 21) := by decide +kernel
theorem am_m_466 : am_MT.lookup 466 = some (12, 0) := by decide +kernel
theorem am_m_481 : am_MT.lookup 481 = some (0, 13) := by decide +kernel
theorem am_m_483 : am_MT.lookup 483 = some (9, 0) := by decide +kernel
theorem am_m_484 : am_MT.lookup 484 = some (0, 39) := by decide +kernel
theorem am_m_496 : am_MT.lookup 496 = some (0, 6) := by decide +kernel
theorem am_m_508 : am_MT.lookup 508 = some (0, 118) := by decide +kernel
theorem am_m_524 : am_MT.lookup 524 = some (0, 63) := by decide +kernel
theorem am_m_560 : am_MT.lookup 560 = some (0, 8) := by decide +kernel
theorem am_m_565 : am_MT.lookup 565 = some (0, 50) := by decide +kernel
theorem am_m_566 : am_MT.lookup 566 = some (2, 18) := by decide +kernel
theorem am_m_572 : am_MT.lookup 572 = some (0, 120) := by decide +kernel
theorem am_m_580 : am_MT.lookup 580 = some (0, 33) := by decide +kernel
theorem am_m_588 : am_MT.lookup 588 = some (0, 64) := by decide +kernel
theorem am_m_624 : am_MT.lookup 624 = some (1, 7) := by decide +kernel
theorem am_m_627 : am_MT.lookup 627 = some (0, 25) := by decide +kernel
theorem am_m_629 : am_MT.lookup 629 = some (1, 46) := by decide +kernel
theorem am_m_636 : am_MT.lookup 636 = some (0, 121) := by decide +kernel
theorem am_m_644 : am_MT.lookup 644 = some (0, 34) := by decide +kernel
theorem am_m_652 : am_MT.lookup 652 = some (0, 65) := by decide +kernel
theorem am_m_691 : am_MT.lookup 691 = some (1, 156) := by decide +kernel
theorem am_m_692 : am_MT.lookup 692 = some (0, 35) := by decide +kernel
theorem am_m_693 : am_MT.lookup 693 = some (0, 48) := by decide +kernel
theorem am_m_700 : am_MT.lookup 700 = some (0, 123) := by decide +kernel
theorem am_m_716 : am_MT.lookup 716 = some (0, 66) := by decide +kernel
theorem am_m_740 : am_MT.lookup 740 = some (0, 36) := by decide +kernel
theorem am_m_757 : am_MT.lookup 757 = some (0, 44) := by decide +kernel
theorem am_m_764 : am_MT.lookup 764 = some (0, 124) := by decide +kernel
theorem am_m_768 : am_MT.lookup 768 = some (0, 15) := by decide +kernel
theorem am_m_780 : am_MT.lookup 780 = some (0, 67) := by decide +kernel
theorem am_m_787 : am_MT.lookup 787 = some (0, 26) := by decide +kernel
theorem am_m_788 : am_MT.lookup 788 = some (0, 38) := by decide +kernel
theorem am_m_806 : am_MT.lookup 806 = some (3, 0) := by decide +kernel
theorem am_m_828 : am_MT.lookup 828 = some (0, 125) := by decide +kernel
theorem am_m_844 : am_MT.lookup 844 = some (0, 68) := by decide +kernel
theorem am_m_849 : am_MT.lookup 849 = some (10, 0) := by decide +kernel
theorem am_m_880 : am_MT.lookup 880 = some (1, 156) := by decide +kernel
theorem am_m_892 : am_MT.lookup 892 = some (0, 126) := by decide +kernel
theorem am_m_908 : am_MT.lookup 908 = some (0, 69) := by decide +kernel
theorem am_m_918 : am_MT.lookup 918 = some (3, 42) := by decide +kernel
theorem am_m_945 : am_MT.lookup 945 = some (0, 16) := by decide +kernel
theorem am_m_948 : am_MT.lookup 948 = some (0, 37) := by decide +kernel
theorem am_m_956 : am_MT.lookup 956 = some (0, 127) := by decide +kernel
theorem am_m_972 : am_MT.lookup 972 = some (0, 70) := by decide +kernel
theorem am_m_976 : am_MT.lookup 976 = some (0, 10) := by decide +kernel
theorem am_m_981 : am_MT.lookup 981 = some (0, 16) := by decide +kernel
theorem am_m_1020 : am_MT.lookup 1020 = some (0, 137) := by decide +kernel
theorem am_m_1024 : am_MT.lookup 1024 = some (1, 11) := by decide +kernel
theorem am_m_1031 : am_MT.lookup 1031 = some (1, 97) := by decide +kernel
theorem am_m_1036 : am_MT.lookup 1036 = some (0, 71) := by decide +kernel
theorem am_m_1077 : am_MT.lookup 1077 = some (1, 47) := by decide +kernel
theorem am_m_1084 : am_MT.lookup 1084 = some (0, 138) := by decide +kernel
theorem am_m_1100 : am_MT.lookup 1100 = some (0, 72) := by decide +kernel
theorem am_m_1136 : am_MT.lookup 1136 = some (0, 17) := by decide +kernel
theorem am_m_1148 : am_MT.lookup 1148 = some (0, 139) := by decide +kernel
theorem am_m_1164 : am_MT.lookup 1164 = some (0, 73) := by decide +kernel
theorem am_m_1173 : am_MT.lookup 1173 = some (0, 28) := by decide +kernel
theorem am_m_1174 : am_MT.lookup 1174 = some (0, 31) := by decide +kernel
theorem am_m_1212 : am_MT.lookup 1212 = some (0, 140) := by decide +kernel
theorem am_m_1228 : am_MT.lookup 1228 = some (0, 74) := by decide +kernel
theorem am_m_1237 : am_MT.lookup 1237 = some (0, 29) := by decide +kernel
theorem am_m_1239 : am_MT.lookup 1239 = some (0, 106) := by decide +kernel
theorem am_m_1292 : am_MT.lookup 1292 = some (0, 142) := by decide +kernel
theorem am_m_1301 : am_MT.lookup 1301 = some (0, 15) := by decide +kernel
theorem am_m_1302 : am_MT.lookup 1302 = some (0, 32) := by decide +kernel
theorem am_m_1308 : am_MT.lookup 1308 = some (0, 77) := by decide +kernel
theorem am_m_1349 : am_MT.lookup 1349 = some (0, 24) := by decide +kernel
theorem am_m_1356 : am_MT.lookup 1356 = some (0, 143) := by decide +kernel
theorem am_m_1372 : am_MT.lookup 1372 = some (0, 80) := by decide +kernel
theorem am_m_1414 : am_MT.lookup 1414 = some (0, 61) := by decide +kernel
theorem am_m_1420 : am_MT.lookup 1420 = some (0, 144) := by decide +kernel
theorem am_m_1436 : am_MT.lookup 1436 = some (0, 81) := by decide +kernel
theorem am_m_1447 : am_MT.lookup 1447 = some (1, 107) := by decide +kernel
theorem am_m_1462 : am_MT.lookup 1462 = some (0, 22) := by decide +kernel
theorem am_m_1484 : am_MT.lookup 1484 = some (0, 146) := by decide +kernel
theorem am_m_1500 : am_MT.lookup 1500 = some (0, 82) := by decide +kernel
theorem am_m_1509 : am_MT.lookup 1509 = some (1, 158) := by decide +kernel
theorem am_m_1548 : am_MT.lookup 1548 = some (0, 147) := by decide +kernel
theorem am_m_1564 : am_MT.lookup 1564 = some (0, 83) := by decide +kernel
theorem am_m_1574 : am_MT.lookup 1574 = some (0, 1) := by decide +kernel
theorem am_m_1575 : am_MT.lookup 1575 = some (0, 108) := by decide +kernel
theorem am_m_1604 : am_MT.lookup 1604 = some (1, 41) := by decide +kernel
theorem am_m_1605 : am_MT.lookup 1605 = some (0, 49) := by decide +kernel
theorem am_m_1612 : am_MT.lookup 1612 = some (0, 149) := by decide +kernel
theorem am_m_1622 : am_MT.lookup 1622 = some (0, 43) := by decide +kernel
theorem am_m_1628 : am_MT.lookup 1628 = some (0, 84) := by decide +kernel
theorem am_m_1638 : am_MT.lookup 1638 = some (0, 14) := by decide +kernel
theorem am_m_1668 : am_MT.lookup 1668 = some (0, 40) := by decide +kernel
theorem am_m_1669 : am_MT.lookup 1669 = some (0, 51) := by decide +kernel
theorem am_m_1671 : am_MT.lookup 1671 = some (0, 109) := by decide +kernel
theorem am_m_1676 : am_MT.lookup 1676 = some (0, 150) := by decide +kernel
theorem am_m_1692 : am_MT.lookup 1692 = some (0, 85) := by decide +kernel
theorem am_m_1716 : am_MT.lookup 1716 = some (12, 0) := by decide +kernel
theorem am_m_1733 : am_MT.lookup 1733 = some (0, 56) := by decide +kernel
theorem am_m_1740 : am_MT.lookup 1740 = some (0, 151) := by decide +kernel
theorem am_m_1756 : am_MT.lookup 1756 = some (0, 92) := by decide +kernel
theorem am_m_1797 : am_MT.lookup 1797 = some (0, 52) := by decide +kernel
theorem am_m_1798 : am_MT.lookup 1798 = some (0, 25) := by decide +kernel
theorem am_m_1804 : am_MT.lookup 1804 = some (0, 152) := by decide +kernel
theorem am_m_1820 : am_MT.lookup 1820 = some (0, 93) := by decide +kernel
theorem am_m_1861 : am_MT.lookup 1861 = some (1, 156) := by decide +kernel
theorem am_m_1868 : am_MT.lookup 1868 = some (0, 153) := by decide +kernel
theorem am_m_1879 : am_MT.lookup 1879 = some (0, 110) := by decide +kernel
theorem am_m_1884 : am_MT.lookup 1884 = some (0, 94) := by decide +kernel
theorem am_m_1910 : am_MT.lookup 1910 = some (0, 16) := by decide +kernel
theorem am_m_1927 : am_MT.lookup 1927 = some (0, 111) := by decide +kernel
theorem am_m_1932 : am_MT.lookup 1932 = some (0, 154) := by decide +kernel
theorem am_m_1948 : am_MT.lookup 1948 = some (0, 95) := by decide +kernel
theorem am_m_1974 : am_MT.lookup 1974 = some (0, 15) := by decide +kernel
theorem am_m_2005 : am_MT.lookup 2005 = some (0, 54) := by decide +kernel
theorem am_m_2012 : am_MT.lookup 2012 = some (0, 155) := by decide +kernel
theorem am_m_2023 : am_MT.lookup 2023 = some (0, 112) := by decide +kernel
theorem am_m_2053 : am_MT.lookup 2053 = some (0, 53) := by decide +kernel
theorem am_m_2071 : am_MT.lookup 2071 = some (0, 114) := by decide +kernel
theorem am_m_2149 : am_MT.lookup 2149 = some (0, 55) := by decide +kernel
theorem am_m_2262 : am_MT.lookup 2262 = some (0, 24) := by decide +kernel
theorem am_m_2311 : am_MT.lookup 2311 = some (1, 100) := by decide +kernel
theorem am_m_2358 : am_MT.lookup 2358 = some (0, 27) := by decide +kernel
theorem am_m_2359 : am_MT.lookup 2359 = some (0, 101) := by decide +kernel
theorem am_m_2407 : am_MT.lookup 2407 = some (0, 116) := by decide +kernel
theorem am_m_2454 : am_MT.lookup 2454 = some (0, 19) := by decide +kernel
theorem am_m_2455 : am_MT.lookup 2455 = some (0, 115) := by decide +kernel
theorem am_m_2503 : am_MT.lookup 2503 = some (0, 102) := by decide +kernel
theorem am_m_2518 : am_MT.lookup 2518 = some (0, 28) := by decide +kernel
theorem am_m_2551 : am_MT.lookup 2551 = some (1, 119) := by decide +kernel
theorem am_m_2582 : am_MT.lookup 2582 = some (0, 26) := by decide +kernel
theorem am_m_2599 : am_MT.lookup 2599 = some (0, 117) := by decide +kernel
theorem am_m_2630 : am_MT.lookup 2630 = some (0, 29) := by decide +kernel
theorem am_m_2663 : am_MT.lookup 2663 = some (1, 103) := by decide +kernel
theorem am_m_2678 : am_MT.lookup 2678 = some (0, 20) := by decide +kernel
theorem am_m_2727 : am_MT.lookup 2727 = some (0, 122) := by decide +kernel
theorem am_m_2742 : am_MT.lookup 2742 = some (0, 44) := by decide +kernel
theorem am_m_2775 : am_MT.lookup 2775 = some (1, 99) := by decide +kernel
theorem am_m_2806 : am_MT.lookup 2806 = some (0, 45) := by decide +kernel
theorem am_m_2823 : am_MT.lookup 2823 = some (1, 128) := by decide +kernel
theorem am_m_2966 : am_MT.lookup 2966 = some (1, 156) := by decide +kernel
theorem am_m_3015 : am_MT.lookup 3015 = some (1, 129) := by decide +kernel
theorem am_m_3062 : am_MT.lookup 3062 = some (0, 75) := by decide +kernel
theorem am_m_3063 : am_MT.lookup 3063 = some (0, 130) := by decide +kernel
theorem am_m_3110 : am_MT.lookup 3110 = some (1, 76) := by decide +kernel
theorem am_m_3127 : am_MT.lookup 3127 = some (0, 131) := by decide +kernel
theorem am_m_3158 : am_MT.lookup 3158 = some (1, 158) := by decide +kernel
theorem am_m_3223 : am_MT.lookup 3223 = some (1, 98) := by decide +kernel
theorem am_m_3254 : am_MT.lookup 3254 = some (0, 78) := by decide +kernel
theorem am_m_3287 : am_MT.lookup 3287 = some (0, 133) := by decide +kernel
theorem am_m_3318 : am_MT.lookup 3318 = some (11, 0) := by decide +kernel
theorem am_m_3351 : am_MT.lookup 3351 = some (0, 132) := by decide +kernel
theorem am_m_3398 : am_MT.lookup 3398 = some (1, 157) := by decide +kernel
theorem am_m_3415 : am_MT.lookup 3415 = some (0, 134) := by decide +kernel
theorem am_m_3463 : am_MT.lookup 3463 = some (0, 135) := by decide +kernel
theorem am_m_3478 : am_MT.lookup 3478 = some (12, 0) := by decide +kernel
theorem am_m_3511 : am_MT.lookup 3511 = some (0, 136) := by decide +kernel
theorem am_m_3526 : am_MT.lookup 3526 = some (0, 79) := by decide +kernel
theorem am_m_3559 : am_MT.lookup 3559 = some (1, 141) := by decide +kernel
theorem am_m_3590 : am_MT.lookup 3590 = some (0, 2) := by decide +kernel
theorem am_m_3623 : am_MT.lookup 3623 = some (0, 145) := by decide +kernel
theorem am_m_3671 : am_MT.lookup 3671 = some (0, 148) := by decide +kernel
theorem am_m_3686 : am_MT.lookup 3686 = some (0, 4) := by decide +kernel
theorem am_m_3734 : am_MT.lookup 3734 = some (0, 5) := by decide +kernel
theorem am_m_3798 : am_MT.lookup 3798 = some (0, 3) := by decide +kernel
theorem am_m_3910 : am_MT.lookup 3910 = some (0, 9) := by decide +kernel
theorem am_m_3974 : am_MT.lookup 3974 = some (0, 86) := by decide +kernel
theorem am_m_4022 : am_MT.lookup 4022 = some (0, 87) := by decide +kernel
theorem am_m_4070 : am_MT.lookup 4070 = some (0, 88) := by decide +kernel
theorem am_m_4118 : am_MT.lookup 4118 = some (0, 89) := by decide +kernel
theorem am_m_4166 : am_MT.lookup 4166 = some (0, 90) := by decide +kernel
theorem am_m_4214 : am_MT.lookup 4214 = some (0, 91) := by decide +kernel
theorem am_m_4422 : am_MT.lookup 4422 = some (0, 23) := by decide +kernel
theorem am_fl {mi o idx key : Nat} {r : Option (Nat × Nat)} (ho : am_own mi = o) (hk : idx * 16 + o = key) (h : am_FT.lookup key = r) : am_FT.lookup (idx * 16 + am_own mi) = r := by subst ho; subst hk; exact h
theorem am_ml {mi o idx key : Nat} {r : Option (Nat × Nat)} (ho : am_own mi = o) (hk : idx * 16 + o = key) (h : am_MT.lookup key = r) : am_MT.lookup (idx * 16 + am_own mi) = r := by subst ho; subst hk; exact h
