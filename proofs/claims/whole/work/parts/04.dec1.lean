theorem dX4_readSetting_56 : decode cX4_readSetting 56 = .ok (.goto 7, 3) := by decide +kernel
theorem dX4_readSetting_59 : decode cX4_readSetting 59 = .ok (.aload_n 0, 1) := by decide +kernel
theorem dX4_readSetting_60 : decode cX4_readSetting 60 = .ok (.getfield 63, 3) := by decide +kernel
theorem dX4_readSetting_63 : decode cX4_readSetting 63 = .ok (.iastore, 1) := by decide +kernel
theorem dX4_readSetting_64 : decode cX4_readSetting 64 = .ok (.aload_n 0, 1) := by decide +kernel
theorem dX4_readSetting_65 : decode cX4_readSetting 65 = .ok (.invokevirtual 68, 3) := by decide +kernel
theorem dX4_readSetting_68 : decode cX4_readSetting 68 = .ok (.ireturn, 1) := by decide +kernel
set_option maxRecDepth 20000 in
theorem ggX4_readMark_X4_note : GoodIn wsX4_readMark wsX4_note := goodIn_r _ [7, 8, 9, 10, 54, 55, 56, 57, 58, 59, 60, 61, 62] (by decide +kernel) (by decide +kernel)
set_option maxRecDepth 20000 in
theorem gX4_readMark_X4_note : GoodIn wsX4_readMark (wsV RX4 89 RX4 yX4_note wsX4_note) := goodIn_app (goodIn_of _ (by decide +kernel)) ggX4_readMark_X4_note
set_option maxRecDepth 20000 in
theorem ggX4_readMark_X4_readNumber : GoodIn wsX4_readMark wsX4_readNumber := goodIn_r _ [14, 15, 2, 16, 17, 18, 6, 19, 20, 21, 22, 9, 23, 24, 25, 26, 27, 28, 29, 30, 31, 32, 33, 34, 35, 8, 10, 3, 4, 5, 7, 54, 55, 56, 57, 58, 59, 60, 61, 62] (by decide +kernel) (by decide +kernel)
set_option maxRecDepth 20000 in
theorem gX4_readMark_X4_readNumber : GoodIn wsX4_readMark (wsV RX4 59 RX4 yX4_readNumber wsX4_readNumber) := goodIn_app (goodIn_of _ (by decide +kernel)) ggX4_readMark_X4_readNumber
set_option maxRecDepth 20000 in
theorem ggX4_readMark_X1_addMark : GoodIn wsX4_readMark wsX1_addMark := goodIn_r _ [40, 41, 42, 43, 44, 49, 50, 51, 52, 53] (by decide +kernel) (by decide +kernel)
set_option maxRecDepth 20000 in
theorem gX4_readMark_X1_addMark : GoodIn wsX4_readMark (wsV RX4 132 RX1 yX1_addMark wsX1_addMark) := goodIn_app (goodIn_of _ (by decide +kernel)) ggX4_readMark_X1_addMark
set_option maxRecDepth 20000 in
theorem ggX4_readMark_X4_readSign : GoodIn wsX4_readMark wsX4_readSign := goodIn_r _ [48, 15, 16, 17, 18, 6, 19, 20, 21, 22, 9, 2, 23, 24, 25, 26, 27, 28, 29, 30, 31, 32, 33, 34, 35, 8, 10, 54, 55, 56, 57, 58, 59, 60, 61, 62] (by decide +kernel) (by decide +kernel)
set_option maxRecDepth 20000 in
theorem gX4_readMark_X4_readSign : GoodIn wsX4_readMark (wsV RX4 68 RX4 yX4_readSign wsX4_readSign) := goodIn_app (goodIn_of _ (by decide +kernel)) ggX4_readMark_X4_readSign
theorem dX4_readMark_0 : decode cX4_readMark 0 = .ok (.aload_n 1, 1) := by decide +kernel
theorem dX4_readMark_1 : decode cX4_readMark 1 = .ok (.getfield 129, 3) := by decide +kernel
theorem dX4_readMark_4 : decode cX4_readMark 4 = .ok (.bipush 10, 2) := by decide +kernel
theorem dX4_readMark_6 : decode cX4_readMark 6 = .ok (.if_icmp .lt 8, 3) := by decide +kernel
theorem dX4_readMark_9 : decode cX4_readMark 9 = .ok (.aload_n 0, 1) := by decide +kernel
theorem dX4_readMark_10 : decode cX4_readMark 10 = .ok (.iconst 4, 1) := by decide +kernel
theorem dX4_readMark_11 : decode cX4_readMark 11 = .ok (.invokevirtual 89, 3) := by decide +kernel
theorem dX4_readMark_14 : decode cX4_readMark 14 = .ok (.aload_n 0, 1) := by decide +kernel
theorem dX4_readMark_15 : decode cX4_readMark 15 = .ok (.iconst 0, 1) := by decide +kernel
theorem dX4_readMark_16 : decode cX4_readMark 16 = .ok (.sipush 199, 3) := by decide +kernel
theorem dX4_readMark_19 : decode cX4_readMark 19 = .ok (.invokevirtual 59, 3) := by decide +kernel
theorem dX4_readMark_22 : decode cX4_readMark 22 = .ok (.ifCond .ne 5, 3) := by decide +kernel
theorem dX4_readMark_25 : decode cX4_readMark 25 = .ok (.iconst 0, 1) := by decide +kernel
theorem dX4_readMark_26 : decode cX4_readMark 26 = .ok (.ireturn, 1) := by decide +kernel
theorem dX4_readMark_27 : decode cX4_readMark 27 = .ok (.aload_n 0, 1) := by decide +kernel
theorem dX4_readMark_28 : decode cX4_readMark 28 = .ok (.getfield 63, 3) := by decide +kernel
theorem dX4_readMark_31 : decode cX4_readMark 31 = .ok (.istore_n 3, 1) := by decide +kernel
theorem dX4_readMark_32 : decode cX4_readMark 32 = .ok (.iload_n 2, 1) := by decide +kernel
theorem dX4_readMark_33 : decode cX4_readMark 33 = .ok (.iconst 3, 1) := by decide +kernel
theorem dX4_readMark_34 : decode cX4_readMark 34 = .ok (.if_icmp .ne 16, 3) := by decide +kernel
theorem dX4_readMark_37 : decode cX4_readMark 37 = .ok (.aload_n 0, 1) := by decide +kernel
theorem dX4_readMark_38 : decode cX4_readMark 38 = .ok (.iload_n 3, 1) := by decide +kernel
theorem dX4_readMark_39 : decode cX4_readMark 39 = .ok (.sipush 199, 3) := by decide +kernel
theorem dX4_readMark_42 : decode cX4_readMark 42 = .ok (.invokevirtual 59, 3) := by decide +kernel
theorem dX4_readMark_45 : decode cX4_readMark 45 = .ok (.ifCond .ne 5, 3) := by decide +kernel
theorem dX4_readMark_48 : decode cX4_readMark 48 = .ok (.iconst 0, 1) := by decide +kernel
theorem dX4_readMark_49 : decode cX4_readMark 49 = .ok (.ireturn, 1) := by decide +kernel
theorem dX4_readMark_50 : decode cX4_readMark 50 = .ok (.aload_n 1, 1) := by decide +kernel
theorem dX4_readMark_51 : decode cX4_readMark 51 = .ok (.iload_n 2, 1) := by decide +kernel
theorem dX4_readMark_52 : decode cX4_readMark 52 = .ok (.iload_n 3, 1) := by decide +kernel
theorem dX4_readMark_53 : decode cX4_readMark 53 = .ok (.aload_n 0, 1) := by decide +kernel
theorem dX4_readMark_54 : decode cX4_readMark 54 = .ok (.getfield 63, 3) := by decide +kernel
theorem dX4_readMark_57 : decode cX4_readMark 57 = .ok (.invokevirtual 132, 3) := by decide +kernel
theorem dX4_readMark_60 : decode cX4_readMark 60 = .ok (.pop, 1) := by decide +kernel
theorem dX4_readMark_61 : decode cX4_readMark 61 = .ok (.aload_n 0, 1) := by decide +kernel
theorem dX4_readMark_62 : decode cX4_readMark 62 = .ok (.invokevirtual 68, 3) := by decide +kernel
theorem dX4_readMark_65 : decode cX4_readMark 65 = .ok (.ireturn, 1) := by decide +kernel
set_option maxRecDepth 20000 in
theorem ggX4_settingWord_X4_isWord : GoodIn wsX4_settingWord wsX4_isWord := goodIn_r _ [5, 6, 7, 8, 9, 10, 11, 12, 13, 14, 15, 16, 17, 18, 19, 20, 21, 22, 23, 24, 25, 26, 27, 28, 29, 30, 31, 32, 33, 34, 35, 36, 37, 38, 39, 40, 41, 42, 43, 44, 45, 46, 47, 48, 49, 50, 51, 52, 53, 54, 55, 56, 57, 58, 59, 60, 61, 62, 63, 64, 65, 66, 67] (by decide +kernel) (by decide +kernel)
set_option maxRecDepth 20000 in
theorem gX4_settingWord_X4_isWord : GoodIn wsX4_settingWord (wsV RX4 50 RX4 yX4_isWord wsX4_isWord) := goodIn_app (goodIn_of _ (by decide +kernel)) ggX4_settingWord_X4_isWord
theorem dX4_settingWord_0 : decode cX4_settingWord 0 = .ok (.aload_n 0, 1) := by decide +kernel
theorem dX4_settingWord_1 : decode cX4_settingWord 1 = .ok (.ldc 136, 2) := by decide +kernel
theorem dX4_settingWord_3 : decode cX4_settingWord 3 = .ok (.invokevirtual 50, 3) := by decide +kernel
theorem dX4_settingWord_6 : decode cX4_settingWord 6 = .ok (.ifCond .eq 5, 3) := by decide +kernel
theorem dX4_settingWord_9 : decode cX4_settingWord 9 = .ok (.iconst 0, 1) := by decide +kernel
theorem dX4_settingWord_10 : decode cX4_settingWord 10 = .ok (.ireturn, 1) := by decide +kernel
theorem dX4_settingWord_11 : decode cX4_settingWord 11 = .ok (.aload_n 0, 1) := by decide +kernel
theorem dX4_settingWord_12 : decode cX4_settingWord 12 = .ok (.ldc 138, 2) := by decide +kernel
theorem dX4_settingWord_14 : decode cX4_settingWord 14 = .ok (.invokevirtual 50, 3) := by decide +kernel
theorem dX4_settingWord_17 : decode cX4_settingWord 17 = .ok (.ifCond .eq 5, 3) := by decide +kernel
theorem dX4_settingWord_20 : decode cX4_settingWord 20 = .ok (.iconst 1, 1) := by decide +kernel
theorem dX4_settingWord_21 : decode cX4_settingWord 21 = .ok (.ireturn, 1) := by decide +kernel
theorem dX4_settingWord_22 : decode cX4_settingWord 22 = .ok (.aload_n 0, 1) := by decide +kernel
theorem dX4_settingWord_23 : decode cX4_settingWord 23 = .ok (.ldc 140, 2) := by decide +kernel
theorem dX4_settingWord_25 : decode cX4_settingWord 25 = .ok (.invokevirtual 50, 3) := by decide +kernel
theorem dX4_settingWord_28 : decode cX4_settingWord 28 = .ok (.ifCond .eq 6, 3) := by decide +kernel
theorem dX4_settingWord_31 : decode cX4_settingWord 31 = .ok (.bipush 6, 2) := by decide +kernel
theorem dX4_settingWord_33 : decode cX4_settingWord 33 = .ok (.ireturn, 1) := by decide +kernel
theorem dX4_settingWord_34 : decode cX4_settingWord 34 = .ok (.aload_n 0, 1) := by decide +kernel
theorem dX4_settingWord_35 : decode cX4_settingWord 35 = .ok (.ldc 142, 2) := by decide +kernel
theorem dX4_settingWord_37 : decode cX4_settingWord 37 = .ok (.invokevirtual 50, 3) := by decide +kernel
theorem dX4_settingWord_40 : decode cX4_settingWord 40 = .ok (.ifCond .eq 5, 3) := by decide +kernel
theorem dX4_settingWord_43 : decode cX4_settingWord 43 = .ok (.iconst 2, 1) := by decide +kernel
theorem dX4_settingWord_44 : decode cX4_settingWord 44 = .ok (.ireturn, 1) := by decide +kernel
theorem dX4_settingWord_45 : decode cX4_settingWord 45 = .ok (.aload_n 0, 1) := by decide +kernel
theorem dX4_settingWord_46 : decode cX4_settingWord 46 = .ok (.ldc 144, 2) := by decide +kernel
theorem dX4_settingWord_48 : decode cX4_settingWord 48 = .ok (.invokevirtual 50, 3) := by decide +kernel
theorem dX4_settingWord_51 : decode cX4_settingWord 51 = .ok (.ifCond .eq 5, 3) := by decide +kernel
theorem dX4_settingWord_54 : decode cX4_settingWord 54 = .ok (.iconst 3, 1) := by decide +kernel
theorem dX4_settingWord_55 : decode cX4_settingWord 55 = .ok (.ireturn, 1) := by decide +kernel
theorem dX4_settingWord_56 : decode cX4_settingWord 56 = .ok (.aload_n 0, 1) := by decide +kernel
theorem dX4_settingWord_57 : decode cX4_settingWord 57 = .ok (.ldc 146, 2) := by decide +kernel
theorem dX4_settingWord_59 : decode cX4_settingWord 59 = .ok (.invokevirtual 50, 3) := by decide +kernel
theorem dX4_settingWord_62 : decode cX4_settingWord 62 = .ok (.ifCond .eq 5, 3) := by decide +kernel
theorem dX4_settingWord_65 : decode cX4_settingWord 65 = .ok (.iconst 4, 1) := by decide +kernel
theorem dX4_settingWord_66 : decode cX4_settingWord 66 = .ok (.ireturn, 1) := by decide +kernel
theorem dX4_settingWord_67 : decode cX4_settingWord 67 = .ok (.aload_n 0, 1) := by decide +kernel
theorem dX4_settingWord_68 : decode cX4_settingWord 68 = .ok (.ldc 148, 2) := by decide +kernel
theorem dX4_settingWord_70 : decode cX4_settingWord 70 = .ok (.invokevirtual 50, 3) := by decide +kernel
theorem dX4_settingWord_73 : decode cX4_settingWord 73 = .ok (.ifCond .eq 7, 3) := by decide +kernel
theorem dX4_settingWord_76 : decode cX4_settingWord 76 = .ok (.iconst 5, 1) := by decide +kernel
theorem dX4_settingWord_77 : decode cX4_settingWord 77 = .ok (.goto 4, 3) := by decide +kernel
theorem dX4_settingWord_80 : decode cX4_settingWord 80 = .ok (.iconst (-1), 1) := by decide +kernel
theorem dX4_settingWord_81 : decode cX4_settingWord 81 = .ok (.ireturn, 1) := by decide +kernel
set_option maxRecDepth 20000 in
theorem ggX4_markWord_X4_isWord : GoodIn wsX4_markWord wsX4_isWord := goodIn_r _ [5, 6, 7, 8, 9, 10, 11, 12, 13, 14, 15, 16, 17, 18, 19, 20, 21, 22, 23, 24, 25, 26, 27, 28, 29, 30, 31, 32, 33, 34, 35, 36, 37, 38, 39, 40, 41, 42, 43, 44, 45, 46, 47, 48, 49, 50, 51, 52, 53, 54, 55, 56, 57, 58, 59, 60, 61, 62, 63, 64, 65, 66, 67] (by decide +kernel) (by decide +kernel)
set_option maxRecDepth 20000 in
theorem gX4_markWord_X4_isWord : GoodIn wsX4_markWord (wsV RX4 50 RX4 yX4_isWord wsX4_isWord) := goodIn_app (goodIn_of _ (by decide +kernel)) ggX4_markWord_X4_isWord
theorem dX4_markWord_0 : decode cX4_markWord 0 = .ok (.aload_n 0, 1) := by decide +kernel
theorem dX4_markWord_1 : decode cX4_markWord 1 = .ok (.ldc 150, 2) := by decide +kernel
theorem dX4_markWord_3 : decode cX4_markWord 3 = .ok (.invokevirtual 50, 3) := by decide +kernel
theorem dX4_markWord_6 : decode cX4_markWord 6 = .ok (.ifCond .eq 5, 3) := by decide +kernel
theorem dX4_markWord_9 : decode cX4_markWord 9 = .ok (.iconst 0, 1) := by decide +kernel
theorem dX4_markWord_10 : decode cX4_markWord 10 = .ok (.ireturn, 1) := by decide +kernel
theorem dX4_markWord_11 : decode cX4_markWord 11 = .ok (.aload_n 0, 1) := by decide +kernel
theorem dX4_markWord_12 : decode cX4_markWord 12 = .ok (.ldc 152, 2) := by decide +kernel
theorem dX4_markWord_14 : decode cX4_markWord 14 = .ok (.invokevirtual 50, 3) := by decide +kernel
theorem dX4_markWord_17 : decode cX4_markWord 17 = .ok (.ifCond .eq 5, 3) := by decide +kernel
theorem dX4_markWord_20 : decode cX4_markWord 20 = .ok (.iconst 1, 1) := by decide +kernel
theorem dX4_markWord_21 : decode cX4_markWord 21 = .ok (.ireturn, 1) := by decide +kernel
theorem dX4_markWord_22 : decode cX4_markWord 22 = .ok (.aload_n 0, 1) := by decide +kernel
theorem dX4_markWord_23 : decode cX4_markWord 23 = .ok (.ldc 154, 2) := by decide +kernel
theorem dX4_markWord_25 : decode cX4_markWord 25 = .ok (.invokevirtual 50, 3) := by decide +kernel
theorem dX4_markWord_28 : decode cX4_markWord 28 = .ok (.ifCond .eq 5, 3) := by decide +kernel
theorem dX4_markWord_31 : decode cX4_markWord 31 = .ok (.iconst 2, 1) := by decide +kernel
theorem dX4_markWord_32 : decode cX4_markWord 32 = .ok (.ireturn, 1) := by decide +kernel
theorem dX4_markWord_33 : decode cX4_markWord 33 = .ok (.aload_n 0, 1) := by decide +kernel
theorem dX4_markWord_34 : decode cX4_markWord 34 = .ok (.ldc 156, 2) := by decide +kernel
theorem dX4_markWord_36 : decode cX4_markWord 36 = .ok (.invokevirtual 50, 3) := by decide +kernel
theorem dX4_markWord_39 : decode cX4_markWord 39 = .ok (.ifCond .eq 7, 3) := by decide +kernel
theorem dX4_markWord_42 : decode cX4_markWord 42 = .ok (.iconst 3, 1) := by decide +kernel
theorem dX4_markWord_43 : decode cX4_markWord 43 = .ok (.goto 4, 3) := by decide +kernel
theorem dX4_markWord_46 : decode cX4_markWord 46 = .ok (.iconst (-1), 1) := by decide +kernel
theorem dX4_markWord_47 : decode cX4_markWord 47 = .ok (.ireturn, 1) := by decide +kernel
set_option maxRecDepth 20000 in
theorem ggX4_readNumber_X4_step : GoodIn wsX4_readNumber wsX4_step := goodIn_r _ [7, 8, 9, 10, 11, 2, 1, 12, 13, 6, 14, 15, 16, 17, 18, 19, 20, 31, 32, 33, 34, 35, 36, 37, 38, 39] (by decide +kernel) (by decide +kernel)
set_option maxRecDepth 20000 in
theorem gX4_readNumber_X4_step : GoodIn wsX4_readNumber (wsV RX4 38 RX4 yX4_step wsX4_step) := goodIn_app (goodIn_of _ (by decide +kernel)) ggX4_readNumber_X4_step
set_option maxRecDepth 20000 in
theorem ggX4_readNumber_X4_refuse : GoodIn wsX4_readNumber wsX4_refuse := goodIn_r _ [24, 25, 11, 26, 31, 32, 33, 34, 35, 36, 37, 38, 39] (by decide +kernel) (by decide +kernel)
set_option maxRecDepth 20000 in
theorem gX4_readNumber_X4_refuse : GoodIn wsX4_readNumber (wsV RX4 83 RX4 yX4_refuse wsX4_refuse) := goodIn_app (goodIn_of _ (by decide +kernel)) ggX4_readNumber_X4_refuse
set_option maxRecDepth 20000 in
theorem ggX4_readNumber_X4_note : GoodIn wsX4_readNumber wsX4_note := goodIn_r _ [30, 25, 11, 26, 31, 32, 33, 34, 35, 36, 37, 38, 39] (by decide +kernel) (by decide +kernel)
set_option maxRecDepth 20000 in
theorem gX4_readNumber_X4_note : GoodIn wsX4_readNumber (wsV RX4 89 RX4 yX4_note wsX4_note) := goodIn_app (goodIn_of _ (by decide +kernel)) ggX4_readNumber_X4_note
theorem dX4_readNumber_0 : decode cX4_readNumber 0 = .ok (.aload_n 0, 1) := by decide +kernel
theorem dX4_readNumber_1 : decode cX4_readNumber 1 = .ok (.invokevirtual 38, 3) := by decide +kernel
theorem dX4_readNumber_4 : decode cX4_readNumber 4 = .ok (.aload_n 0, 1) := by decide +kernel
theorem dX4_readNumber_5 : decode cX4_readNumber 5 = .ok (.getfield 41, 3) := by decide +kernel
theorem dX4_readNumber_8 : decode cX4_readNumber 8 = .ok (.iconst 2, 1) := by decide +kernel
theorem dX4_readNumber_9 : decode cX4_readNumber 9 = .ok (.if_icmp .eq 8, 3) := by decide +kernel
theorem dX4_readNumber_12 : decode cX4_readNumber 12 = .ok (.aload_n 0, 1) := by decide +kernel
theorem dX4_readNumber_13 : decode cX4_readNumber 13 = .ok (.invokevirtual 83, 3) := by decide +kernel
theorem dX4_readNumber_16 : decode cX4_readNumber 16 = .ok (.ireturn, 1) := by decide +kernel
theorem dX4_readNumber_17 : decode cX4_readNumber 17 = .ok (.aload_n 0, 1) := by decide +kernel
theorem dX4_readNumber_18 : decode cX4_readNumber 18 = .ok (.getfield 63, 3) := by decide +kernel
theorem dX4_readNumber_21 : decode cX4_readNumber 21 = .ok (.iload_n 1, 1) := by decide +kernel
theorem dX4_readNumber_22 : decode cX4_readNumber 22 = .ok (.if_icmp .lt 11, 3) := by decide +kernel
theorem dX4_readNumber_25 : decode cX4_readNumber 25 = .ok (.aload_n 0, 1) := by decide +kernel
theorem dX4_readNumber_26 : decode cX4_readNumber 26 = .ok (.getfield 63, 3) := by decide +kernel
theorem dX4_readNumber_29 : decode cX4_readNumber 29 = .ok (.iload_n 2, 1) := by decide +kernel
theorem dX4_readNumber_30 : decode cX4_readNumber 30 = .ok (.if_icmp .le 8, 3) := by decide +kernel
theorem dX4_readNumber_33 : decode cX4_readNumber 33 = .ok (.aload_n 0, 1) := by decide +kernel
theorem dX4_readNumber_34 : decode cX4_readNumber 34 = .ok (.iconst 2, 1) := by decide +kernel
theorem dX4_readNumber_35 : decode cX4_readNumber 35 = .ok (.invokevirtual 89, 3) := by decide +kernel
theorem dX4_readNumber_38 : decode cX4_readNumber 38 = .ok (.iconst 1, 1) := by decide +kernel
theorem dX4_readNumber_39 : decode cX4_readNumber 39 = .ok (.ireturn, 1) := by decide +kernel
set_option maxRecDepth 20000 in
theorem ggX4_readSign_X4_step : GoodIn wsX4_readSign wsX4_step := goodIn_r _ [6, 7, 8, 9, 10, 11, 1, 12, 13, 5, 14, 15, 16, 17, 18, 19, 20, 27, 28, 29, 30, 31, 32, 33, 34, 35] (by decide +kernel) (by decide +kernel)
set_option maxRecDepth 20000 in
theorem gX4_readSign_X4_step : GoodIn wsX4_readSign (wsV RX4 38 RX4 yX4_step wsX4_step) := goodIn_app (goodIn_of _ (by decide +kernel)) ggX4_readSign_X4_step
set_option maxRecDepth 20000 in
theorem ggX4_readSign_X4_refuse : GoodIn wsX4_readSign wsX4_refuse := goodIn_r _ [24, 25, 10, 26, 27, 28, 29, 30, 31, 32, 33, 34, 35] (by decide +kernel) (by decide +kernel)
set_option maxRecDepth 20000 in
theorem gX4_readSign_X4_refuse : GoodIn wsX4_readSign (wsV RX4 83 RX4 yX4_refuse wsX4_refuse) := goodIn_app (goodIn_of _ (by decide +kernel)) ggX4_readSign_X4_refuse
theorem dX4_readSign_0 : decode cX4_readSign 0 = .ok (.aload_n 0, 1) := by decide +kernel
theorem dX4_readSign_1 : decode cX4_readSign 1 = .ok (.invokevirtual 38, 3) := by decide +kernel
theorem dX4_readSign_4 : decode cX4_readSign 4 = .ok (.aload_n 0, 1) := by decide +kernel
theorem dX4_readSign_5 : decode cX4_readSign 5 = .ok (.getfield 41, 3) := by decide +kernel
theorem dX4_readSign_8 : decode cX4_readSign 8 = .ok (.iconst 3, 1) := by decide +kernel
theorem dX4_readSign_9 : decode cX4_readSign 9 = .ok (.if_icmp .eq 10, 3) := by decide +kernel
theorem dX4_readSign_12 : decode cX4_readSign 12 = .ok (.aload_n 0, 1) := by decide +kernel
theorem dX4_readSign_13 : decode cX4_readSign 13 = .ok (.invokevirtual 83, 3) := by decide +kernel
theorem dX4_readSign_16 : decode cX4_readSign 16 = .ok (.ifCond .eq 7, 3) := by decide +kernel
theorem dX4_readSign_19 : decode cX4_readSign 19 = .ok (.iconst 1, 1) := by decide +kernel
theorem dX4_readSign_20 : decode cX4_readSign 20 = .ok (.goto 4, 3) := by decide +kernel
theorem dX4_readSign_23 : decode cX4_readSign 23 = .ok (.iconst 0, 1) := by decide +kernel
theorem dX4_readSign_24 : decode cX4_readSign 24 = .ok (.ireturn, 1) := by decide +kernel
theorem dX4_refuse_0 : decode cX4_refuse 0 = .ok (.aload_n 0, 1) := by decide +kernel
theorem dX4_refuse_1 : decode cX4_refuse 1 = .ok (.iconst 1, 1) := by decide +kernel
theorem dX4_refuse_2 : decode cX4_refuse 2 = .ok (.putfield 25, 3) := by decide +kernel
theorem dX4_refuse_5 : decode cX4_refuse 5 = .ok (.aload_n 0, 1) := by decide +kernel
theorem dX4_refuse_6 : decode cX4_refuse 6 = .ok (.aload_n 0, 1) := by decide +kernel
theorem dX4_refuse_7 : decode cX4_refuse 7 = .ok (.getfield 100, 3) := by decide +kernel
theorem dX4_refuse_10 : decode cX4_refuse 10 = .ok (.putfield 29, 3) := by decide +kernel
theorem dX4_refuse_13 : decode cX4_refuse 13 = .ok (.iconst 0, 1) := by decide +kernel
theorem dX4_refuse_14 : decode cX4_refuse 14 = .ok (.ireturn, 1) := by decide +kernel
theorem dX4_note_0 : decode cX4_note 0 = .ok (.aload_n 0, 1) := by decide +kernel
theorem dX4_note_1 : decode cX4_note 1 = .ok (.getfield 25, 3) := by decide +kernel
theorem dX4_note_4 : decode cX4_note 4 = .ok (.ifCond .ne 16, 3) := by decide +kernel
theorem dX4_note_7 : decode cX4_note 7 = .ok (.aload_n 0, 1) := by decide +kernel
theorem dX4_note_8 : decode cX4_note 8 = .ok (.iload_n 1, 1) := by decide +kernel
theorem dX4_note_9 : decode cX4_note 9 = .ok (.putfield 25, 3) := by decide +kernel
theorem dX4_note_12 : decode cX4_note 12 = .ok (.aload_n 0, 1) := by decide +kernel
theorem dX4_note_13 : decode cX4_note 13 = .ok (.aload_n 0, 1) := by decide +kernel
theorem dX4_note_14 : decode cX4_note 14 = .ok (.getfield 100, 3) := by decide +kernel
theorem dX4_note_17 : decode cX4_note 17 = .ok (.putfield 29, 3) := by decide +kernel
theorem dX4_note_20 : decode cX4_note 20 = .ok (.return_, 1) := by decide +kernel
set_option maxRecDepth 20000 in
theorem ggX4_step_X4_isBlank : GoodIn wsX4_step wsX4_isBlank := goodIn_r _ [10] (by decide +kernel) (by decide +kernel)
set_option maxRecDepth 20000 in
theorem gX4_step_X4_isBlank : GoodIn wsX4_step (va_wsS RX4 158 yX4_isBlank wsX4_isBlank) := goodIn_app (goodIn_of _ (by decide +kernel)) ggX4_step_X4_isBlank
set_option maxRecDepth 20000 in
theorem ggX4_step_X4_isLetter : GoodIn wsX4_step wsX4_isLetter := goodIn_r _ [13] (by decide +kernel) (by decide +kernel)
set_option maxRecDepth 20000 in
theorem gX4_step_X4_isLetter : GoodIn wsX4_step (va_wsS RX4 162 yX4_isLetter wsX4_isLetter) := goodIn_app (goodIn_of _ (by decide +kernel)) ggX4_step_X4_isLetter
set_option maxRecDepth 20000 in
theorem ggX4_step_X4_isDigit : GoodIn wsX4_step wsX4_isDigit := goodIn_r _ [16] (by decide +kernel) (by decide +kernel)
set_option maxRecDepth 20000 in
theorem gX4_step_X4_isDigit : GoodIn wsX4_step (va_wsS RX4 165 yX4_isDigit wsX4_isDigit) := goodIn_app (goodIn_of _ (by decide +kernel)) ggX4_step_X4_isDigit
theorem dX4_step_0 : decode cX4_step 0 = .ok (.aload_n 0, 1) := by decide +kernel
theorem dX4_step_1 : decode cX4_step 1 = .ok (.getfield 35, 3) := by decide +kernel
theorem dX4_step_4 : decode cX4_step 4 = .ok (.aload_n 0, 1) := by decide +kernel
theorem dX4_step_5 : decode cX4_step 5 = .ok (.getfield 32, 3) := by decide +kernel
theorem dX4_step_8 : decode cX4_step 8 = .ok (.if_icmp .ge 31, 3) := by decide +kernel
theorem dX4_step_11 : decode cX4_step 11 = .ok (.aload_n 0, 1) := by decide +kernel
theorem dX4_step_12 : decode cX4_step 12 = .ok (.getfield 18, 3) := by decide +kernel
theorem dX4_step_15 : decode cX4_step 15 = .ok (.aload_n 0, 1) := by decide +kernel
theorem dX4_step_16 : decode cX4_step 16 = .ok (.getfield 35, 3) := by decide +kernel
theorem dX4_step_19 : decode cX4_step 19 = .ok (.baload, 1) := by decide +kernel
theorem dX4_step_20 : decode cX4_step 20 = .ok (.invokestatic 158, 3) := by decide +kernel
theorem dX4_step_23 : decode cX4_step 23 = .ok (.ifCond .eq 16, 3) := by decide +kernel
theorem dX4_step_26 : decode cX4_step 26 = .ok (.aload_n 0, 1) := by decide +kernel
theorem dX4_step_27 : decode cX4_step 27 = .ok (.dup, 1) := by decide +kernel
theorem dX4_step_28 : decode cX4_step 28 = .ok (.getfield 35, 3) := by decide +kernel
theorem dX4_step_31 : decode cX4_step 31 = .ok (.iconst 1, 1) := by decide +kernel
theorem dX4_step_32 : decode cX4_step 32 = .ok (.iadd, 1) := by decide +kernel
theorem dX4_step_33 : decode cX4_step 33 = .ok (.putfield 35, 3) := by decide +kernel
theorem dX4_step_36 : decode cX4_step 36 = .ok (.goto (-36), 3) := by decide +kernel
theorem dX4_step_39 : decode cX4_step 39 = .ok (.aload_n 0, 1) := by decide +kernel
theorem dX4_step_40 : decode cX4_step 40 = .ok (.aload_n 0, 1) := by decide +kernel
theorem dX4_step_41 : decode cX4_step 41 = .ok (.getfield 35, 3) := by decide +kernel
theorem dX4_step_44 : decode cX4_step 44 = .ok (.putfield 100, 3) := by decide +kernel
theorem dX4_step_47 : decode cX4_step 47 = .ok (.aload_n 0, 1) := by decide +kernel
theorem dX4_step_48 : decode cX4_step 48 = .ok (.iconst 0, 1) := by decide +kernel
theorem dX4_step_49 : decode cX4_step 49 = .ok (.putfield 63, 3) := by decide +kernel
theorem dX4_step_52 : decode cX4_step 52 = .ok (.aload_n 0, 1) := by decide +kernel
theorem dX4_step_53 : decode cX4_step 53 = .ok (.getfield 35, 3) := by decide +kernel
theorem dX4_step_56 : decode cX4_step 56 = .ok (.aload_n 0, 1) := by decide +kernel
theorem dX4_step_57 : decode cX4_step 57 = .ok (.getfield 32, 3) := by decide +kernel
theorem dX4_step_60 : decode cX4_step 60 = .ok (.if_icmp .lt 11, 3) := by decide +kernel
theorem dX4_step_63 : decode cX4_step 63 = .ok (.aload_n 0, 1) := by decide +kernel
theorem dX4_step_64 : decode cX4_step 64 = .ok (.iconst 0, 1) := by decide +kernel
theorem dX4_step_65 : decode cX4_step 65 = .ok (.putfield 41, 3) := by decide +kernel
theorem dX4_step_68 : decode cX4_step 68 = .ok (.goto 219, 3) := by decide +kernel
theorem dX4_step_71 : decode cX4_step 71 = .ok (.aload_n 0, 1) := by decide +kernel
theorem dX4_step_72 : decode cX4_step 72 = .ok (.getfield 18, 3) := by decide +kernel
theorem dX4_step_75 : decode cX4_step 75 = .ok (.aload_n 0, 1) := by decide +kernel
theorem dX4_step_76 : decode cX4_step 76 = .ok (.getfield 35, 3) := by decide +kernel
theorem dX4_step_79 : decode cX4_step 79 = .ok (.baload, 1) := by decide +kernel
theorem dX4_step_80 : decode cX4_step 80 = .ok (.invokestatic 162, 3) := by decide +kernel
theorem dX4_step_83 : decode cX4_step 83 = .ok (.ifCond .eq 68, 3) := by decide +kernel
theorem dX4_step_86 : decode cX4_step 86 = .ok (.aload_n 0, 1) := by decide +kernel
theorem dX4_step_87 : decode cX4_step 87 = .ok (.getfield 35, 3) := by decide +kernel
theorem dX4_step_90 : decode cX4_step 90 = .ok (.aload_n 0, 1) := by decide +kernel
theorem dX4_step_91 : decode cX4_step 91 = .ok (.getfield 32, 3) := by decide +kernel
theorem dX4_step_94 : decode cX4_step 94 = .ok (.if_icmp .ge 31, 3) := by decide +kernel
theorem dX4_step_97 : decode cX4_step 97 = .ok (.aload_n 0, 1) := by decide +kernel
theorem dX4_step_98 : decode cX4_step 98 = .ok (.getfield 18, 3) := by decide +kernel
theorem dX4_step_101 : decode cX4_step 101 = .ok (.aload_n 0, 1) := by decide +kernel
theorem dX4_step_102 : decode cX4_step 102 = .ok (.getfield 35, 3) := by decide +kernel
theorem dX4_step_105 : decode cX4_step 105 = .ok (.baload, 1) := by decide +kernel
theorem dX4_step_106 : decode cX4_step 106 = .ok (.invokestatic 162, 3) := by decide +kernel
theorem dX4_step_109 : decode cX4_step 109 = .ok (.ifCond .eq 16, 3) := by decide +kernel
theorem dX4_step_112 : decode cX4_step 112 = .ok (.aload_n 0, 1) := by decide +kernel
theorem dX4_step_113 : decode cX4_step 113 = .ok (.dup, 1) := by decide +kernel
theorem dX4_step_114 : decode cX4_step 114 = .ok (.getfield 35, 3) := by decide +kernel
theorem dX4_step_117 : decode cX4_step 117 = .ok (.iconst 1, 1) := by decide +kernel
theorem dX4_step_118 : decode cX4_step 118 = .ok (.iadd, 1) := by decide +kernel
theorem dX4_step_119 : decode cX4_step 119 = .ok (.putfield 35, 3) := by decide +kernel
theorem dX4_step_122 : decode cX4_step 122 = .ok (.goto (-36), 3) := by decide +kernel
theorem dX4_step_125 : decode cX4_step 125 = .ok (.aload_n 0, 1) := by decide +kernel
theorem dX4_step_126 : decode cX4_step 126 = .ok (.aload_n 0, 1) := by decide +kernel
theorem dX4_step_127 : decode cX4_step 127 = .ok (.getfield 35, 3) := by decide +kernel
theorem dX4_step_130 : decode cX4_step 130 = .ok (.aload_n 0, 1) := by decide +kernel
theorem dX4_step_131 : decode cX4_step 131 = .ok (.getfield 100, 3) := by decide +kernel
theorem dX4_step_134 : decode cX4_step 134 = .ok (.isub, 1) := by decide +kernel
theorem dX4_step_135 : decode cX4_step 135 = .ok (.bipush 13, 2) := by decide +kernel
theorem dX4_step_137 : decode cX4_step 137 = .ok (.if_icmp .gt 7, 3) := by decide +kernel
theorem dX4_step_140 : decode cX4_step 140 = .ok (.iconst 1, 1) := by decide +kernel
theorem dX4_step_141 : decode cX4_step 141 = .ok (.goto 4, 3) := by decide +kernel
theorem dX4_step_144 : decode cX4_step 144 = .ok (.iconst 4, 1) := by decide +kernel
theorem dX4_step_145 : decode cX4_step 145 = .ok (.putfield 41, 3) := by decide +kernel
theorem dX4_step_148 : decode cX4_step 148 = .ok (.goto 139, 3) := by decide +kernel
theorem dX4_step_151 : decode cX4_step 151 = .ok (.aload_n 0, 1) := by decide +kernel
theorem dX4_step_152 : decode cX4_step 152 = .ok (.getfield 18, 3) := by decide +kernel
theorem dX4_step_155 : decode cX4_step 155 = .ok (.aload_n 0, 1) := by decide +kernel
theorem dX4_step_156 : decode cX4_step 156 = .ok (.getfield 35, 3) := by decide +kernel
theorem dX4_step_159 : decode cX4_step 159 = .ok (.baload, 1) := by decide +kernel
theorem dX4_step_160 : decode cX4_step 160 = .ok (.invokestatic 165, 3) := by decide +kernel
theorem dX4_step_163 : decode cX4_step 163 = .ok (.ifCond .eq 91, 3) := by decide +kernel
theorem dX4_step_166 : decode cX4_step 166 = .ok (.aload_n 0, 1) := by decide +kernel
theorem dX4_step_167 : decode cX4_step 167 = .ok (.getfield 35, 3) := by decide +kernel
theorem dX4_step_170 : decode cX4_step 170 = .ok (.aload_n 0, 1) := by decide +kernel
theorem dX4_step_171 : decode cX4_step 171 = .ok (.getfield 32, 3) := by decide +kernel
theorem dX4_step_174 : decode cX4_step 174 = .ok (.if_icmp .ge 55, 3) := by decide +kernel
theorem dX4_step_177 : decode cX4_step 177 = .ok (.aload_n 0, 1) := by decide +kernel
theorem dX4_step_178 : decode cX4_step 178 = .ok (.getfield 18, 3) := by decide +kernel
theorem dX4_step_181 : decode cX4_step 181 = .ok (.aload_n 0, 1) := by decide +kernel
theorem dX4_step_182 : decode cX4_step 182 = .ok (.getfield 35, 3) := by decide +kernel
theorem dX4_step_185 : decode cX4_step 185 = .ok (.baload, 1) := by decide +kernel
theorem dX4_step_186 : decode cX4_step 186 = .ok (.invokestatic 165, 3) := by decide +kernel
theorem dX4_step_189 : decode cX4_step 189 = .ok (.ifCond .eq 40, 3) := by decide +kernel
theorem dX4_step_192 : decode cX4_step 192 = .ok (.aload_n 0, 1) := by decide +kernel
theorem dX4_step_193 : decode cX4_step 193 = .ok (.aload_n 0, 1) := by decide +kernel
theorem dX4_step_194 : decode cX4_step 194 = .ok (.getfield 63, 3) := by decide +kernel
theorem dX4_step_197 : decode cX4_step 197 = .ok (.bipush 10, 2) := by decide +kernel
theorem dX4_step_199 : decode cX4_step 199 = .ok (.imul, 1) := by decide +kernel
theorem dX4_step_200 : decode cX4_step 200 = .ok (.aload_n 0, 1) := by decide +kernel
theorem dX4_step_201 : decode cX4_step 201 = .ok (.getfield 18, 3) := by decide +kernel
theorem dX4_step_204 : decode cX4_step 204 = .ok (.aload_n 0, 1) := by decide +kernel
theorem dX4_step_205 : decode cX4_step 205 = .ok (.getfield 35, 3) := by decide +kernel
theorem dX4_step_208 : decode cX4_step 208 = .ok (.baload, 1) := by decide +kernel
theorem dX4_step_209 : decode cX4_step 209 = .ok (.bipush 48, 2) := by decide +kernel
theorem dX4_step_211 : decode cX4_step 211 = .ok (.isub, 1) := by decide +kernel
theorem dX4_step_212 : decode cX4_step 212 = .ok (.iadd, 1) := by decide +kernel
theorem dX4_step_213 : decode cX4_step 213 = .ok (.putfield 63, 3) := by decide +kernel
theorem dX4_step_216 : decode cX4_step 216 = .ok (.aload_n 0, 1) := by decide +kernel
theorem dX4_step_217 : decode cX4_step 217 = .ok (.dup, 1) := by decide +kernel
theorem dX4_step_218 : decode cX4_step 218 = .ok (.getfield 35, 3) := by decide +kernel
theorem dX4_step_221 : decode cX4_step 221 = .ok (.iconst 1, 1) := by decide +kernel
theorem dX4_step_222 : decode cX4_step 222 = .ok (.iadd, 1) := by decide +kernel
theorem dX4_step_223 : decode cX4_step 223 = .ok (.putfield 35, 3) := by decide +kernel
theorem dX4_step_226 : decode cX4_step 226 = .ok (.goto (-60), 3) := by decide +kernel
theorem dX4_step_229 : decode cX4_step 229 = .ok (.aload_n 0, 1) := by decide +kernel
theorem dX4_step_230 : decode cX4_step 230 = .ok (.aload_n 0, 1) := by decide +kernel
theorem dX4_step_231 : decode cX4_step 231 = .ok (.getfield 35, 3) := by decide +kernel
theorem dX4_step_234 : decode cX4_step 234 = .ok (.aload_n 0, 1) := by decide +kernel
theorem dX4_step_235 : decode cX4_step 235 = .ok (.getfield 100, 3) := by decide +kernel
theorem dX4_step_238 : decode cX4_step 238 = .ok (.isub, 1) := by decide +kernel
theorem dX4_step_239 : decode cX4_step 239 = .ok (.iconst 4, 1) := by decide +kernel
theorem dX4_step_240 : decode cX4_step 240 = .ok (.if_icmp .gt 7, 3) := by decide +kernel
theorem dX4_step_243 : decode cX4_step 243 = .ok (.iconst 2, 1) := by decide +kernel
theorem dX4_step_244 : decode cX4_step 244 = .ok (.goto 4, 3) := by decide +kernel
theorem dX4_step_247 : decode cX4_step 247 = .ok (.iconst 4, 1) := by decide +kernel
theorem dX4_step_248 : decode cX4_step 248 = .ok (.putfield 41, 3) := by decide +kernel
theorem dX4_step_251 : decode cX4_step 251 = .ok (.goto 36, 3) := by decide +kernel
theorem dX4_step_254 : decode cX4_step 254 = .ok (.aload_n 0, 1) := by decide +kernel
theorem dX4_step_255 : decode cX4_step 255 = .ok (.aload_n 0, 1) := by decide +kernel
theorem dX4_step_256 : decode cX4_step 256 = .ok (.getfield 18, 3) := by decide +kernel
theorem dX4_step_259 : decode cX4_step 259 = .ok (.aload_n 0, 1) := by decide +kernel
theorem dX4_step_260 : decode cX4_step 260 = .ok (.getfield 35, 3) := by decide +kernel
theorem dX4_step_263 : decode cX4_step 263 = .ok (.baload, 1) := by decide +kernel
theorem dX4_step_264 : decode cX4_step 264 = .ok (.bipush 59, 2) := by decide +kernel
theorem dX4_step_266 : decode cX4_step 266 = .ok (.if_icmp .ne 7, 3) := by decide +kernel
theorem dX4_step_269 : decode cX4_step 269 = .ok (.iconst 3, 1) := by decide +kernel
theorem dX4_step_270 : decode cX4_step 270 = .ok (.goto 4, 3) := by decide +kernel
theorem dX4_step_273 : decode cX4_step 273 = .ok (.iconst 4, 1) := by decide +kernel
theorem dX4_step_274 : decode cX4_step 274 = .ok (.putfield 41, 3) := by decide +kernel
theorem dX4_step_277 : decode cX4_step 277 = .ok (.aload_n 0, 1) := by decide +kernel
theorem dX4_step_278 : decode cX4_step 278 = .ok (.dup, 1) := by decide +kernel
theorem dX4_step_279 : decode cX4_step 279 = .ok (.getfield 35, 3) := by decide +kernel
theorem dX4_step_282 : decode cX4_step 282 = .ok (.iconst 1, 1) := by decide +kernel
theorem dX4_step_283 : decode cX4_step 283 = .ok (.iadd, 1) := by decide +kernel
theorem dX4_step_284 : decode cX4_step 284 = .ok (.putfield 35, 3) := by decide +kernel
theorem dX4_step_287 : decode cX4_step 287 = .ok (.return_, 1) := by decide +kernel
set_option maxRecDepth 20000 in
theorem ggX4_isWord_J0_length_8abf5 : GoodIn wsX4_isWord wsJ0_length_8abf5 := goodIn_r _ [9, 10, 11, 12, 13, 8, 14, 15, 16] (by decide +kernel) (by decide +kernel)
set_option maxRecDepth 20000 in
theorem gX4_isWord_J0_length_8abf5 : GoodIn wsX4_isWord (wsV RX4 168 RJ0 yJ0_length_8abf5 wsJ0_length_8abf5) := goodIn_app (goodIn_of _ (by decide +kernel)) ggX4_isWord_J0_length_8abf5
set_option maxRecDepth 20000 in
theorem ggX4_isWord_J0_charAt_5068e : GoodIn wsX4_isWord wsJ0_charAt_5068e := goodIn_r _ [20, 10, 21, 22, 23, 8, 24, 15, 16, 25, 26, 27, 28, 29, 30, 31, 32, 33, 34, 35, 36, 37, 38, 39, 40, 41, 42, 43, 44, 45, 46, 47, 48, 49, 50, 51, 52, 53] (by decide +kernel) (by decide +kernel)
set_option maxRecDepth 20000 in
theorem gX4_isWord_J0_charAt_5068e : GoodIn wsX4_isWord (wsV RX4 172 RJ0 yJ0_charAt_5068e wsJ0_charAt_5068e) := goodIn_app (goodIn_of _ (by decide +kernel)) ggX4_isWord_J0_charAt_5068e
theorem dX4_isWord_0 : decode cX4_isWord 0 = .ok (.aload_n 0, 1) := by decide +kernel
theorem dX4_isWord_1 : decode cX4_isWord 1 = .ok (.getfield 41, 3) := by decide +kernel
theorem dX4_isWord_4 : decode cX4_isWord 4 = .ok (.iconst 1, 1) := by decide +kernel
theorem dX4_isWord_5 : decode cX4_isWord 5 = .ok (.if_icmp .ne 19, 3) := by decide +kernel
theorem dX4_isWord_8 : decode cX4_isWord 8 = .ok (.aload_n 0, 1) := by decide +kernel
theorem dX4_isWord_9 : decode cX4_isWord 9 = .ok (.getfield 35, 3) := by decide +kernel
theorem dX4_isWord_12 : decode cX4_isWord 12 = .ok (.aload_n 0, 1) := by decide +kernel
theorem dX4_isWord_13 : decode cX4_isWord 13 = .ok (.getfield 100, 3) := by decide +kernel
theorem dX4_isWord_16 : decode cX4_isWord 16 = .ok (.isub, 1) := by decide +kernel
theorem dX4_isWord_17 : decode cX4_isWord 17 = .ok (.aload_n 1, 1) := by decide +kernel
theorem dX4_isWord_18 : decode cX4_isWord 18 = .ok (.invokevirtual 168, 3) := by decide +kernel
theorem dX4_isWord_21 : decode cX4_isWord 21 = .ok (.if_icmp .eq 5, 3) := by decide +kernel
theorem dX4_isWord_24 : decode cX4_isWord 24 = .ok (.iconst 0, 1) := by decide +kernel
theorem dX4_isWord_25 : decode cX4_isWord 25 = .ok (.ireturn, 1) := by decide +kernel
theorem dX4_isWord_26 : decode cX4_isWord 26 = .ok (.iconst 0, 1) := by decide +kernel
theorem dX4_isWord_27 : decode cX4_isWord 27 = .ok (.istore_n 2, 1) := by decide +kernel
theorem dX4_isWord_28 : decode cX4_isWord 28 = .ok (.iload_n 2, 1) := by decide +kernel
theorem dX4_isWord_29 : decode cX4_isWord 29 = .ok (.aload_n 1, 1) := by decide +kernel
theorem dX4_isWord_30 : decode cX4_isWord 30 = .ok (.invokevirtual 168, 3) := by decide +kernel
theorem dX4_isWord_33 : decode cX4_isWord 33 = .ok (.if_icmp .ge 30, 3) := by decide +kernel
theorem dX4_isWord_36 : decode cX4_isWord 36 = .ok (.aload_n 0, 1) := by decide +kernel
theorem dX4_isWord_37 : decode cX4_isWord 37 = .ok (.getfield 18, 3) := by decide +kernel
theorem dX4_isWord_40 : decode cX4_isWord 40 = .ok (.aload_n 0, 1) := by decide +kernel
theorem dX4_isWord_41 : decode cX4_isWord 41 = .ok (.getfield 100, 3) := by decide +kernel
theorem dX4_isWord_44 : decode cX4_isWord 44 = .ok (.iload_n 2, 1) := by decide +kernel
theorem dX4_isWord_45 : decode cX4_isWord 45 = .ok (.iadd, 1) := by decide +kernel
theorem dX4_isWord_46 : decode cX4_isWord 46 = .ok (.baload, 1) := by decide +kernel
theorem dX4_isWord_47 : decode cX4_isWord 47 = .ok (.aload_n 1, 1) := by decide +kernel
theorem dX4_isWord_48 : decode cX4_isWord 48 = .ok (.iload_n 2, 1) := by decide +kernel
theorem dX4_isWord_49 : decode cX4_isWord 49 = .ok (.invokevirtual 172, 3) := by decide +kernel
theorem dX4_isWord_52 : decode cX4_isWord 52 = .ok (.if_icmp .eq 5, 3) := by decide +kernel
theorem dX4_isWord_55 : decode cX4_isWord 55 = .ok (.iconst 0, 1) := by decide +kernel
theorem dX4_isWord_56 : decode cX4_isWord 56 = .ok (.ireturn, 1) := by decide +kernel
theorem dX4_isWord_57 : decode cX4_isWord 57 = .ok (.iinc 2 1, 3) := by decide +kernel
theorem dX4_isWord_60 : decode cX4_isWord 60 = .ok (.goto (-32), 3) := by decide +kernel
theorem dX4_isWord_63 : decode cX4_isWord 63 = .ok (.iconst 1, 1) := by decide +kernel
theorem dX4_isWord_64 : decode cX4_isWord 64 = .ok (.ireturn, 1) := by decide +kernel
theorem dX4_isRow_0 : decode cX4_isRow 0 = .ok (.aload_n 0, 1) := by decide +kernel
theorem dX4_isRow_1 : decode cX4_isRow 1 = .ok (.getfield 41, 3) := by decide +kernel
theorem dX4_isRow_4 : decode cX4_isRow 4 = .ok (.iconst 1, 1) := by decide +kernel
theorem dX4_isRow_5 : decode cX4_isRow 5 = .ok (.if_icmp .ne 16, 3) := by decide +kernel
theorem dX4_isRow_8 : decode cX4_isRow 8 = .ok (.aload_n 0, 1) := by decide +kernel
theorem dX4_isRow_9 : decode cX4_isRow 9 = .ok (.getfield 35, 3) := by decide +kernel
theorem dX4_isRow_12 : decode cX4_isRow 12 = .ok (.aload_n 0, 1) := by decide +kernel
theorem dX4_isRow_13 : decode cX4_isRow 13 = .ok (.getfield 100, 3) := by decide +kernel
theorem dX4_isRow_16 : decode cX4_isRow 16 = .ok (.isub, 1) := by decide +kernel
theorem dX4_isRow_17 : decode cX4_isRow 17 = .ok (.iconst 2, 1) := by decide +kernel
theorem dX4_isRow_18 : decode cX4_isRow 18 = .ok (.if_icmp .ge 5, 3) := by decide +kernel
theorem dX4_isRow_21 : decode cX4_isRow 21 = .ok (.iconst 0, 1) := by decide +kernel
theorem dX4_isRow_22 : decode cX4_isRow 22 = .ok (.ireturn, 1) := by decide +kernel
theorem dX4_isRow_23 : decode cX4_isRow 23 = .ok (.aload_n 0, 1) := by decide +kernel
theorem dX4_isRow_24 : decode cX4_isRow 24 = .ok (.getfield 100, 3) := by decide +kernel
theorem dX4_isRow_27 : decode cX4_isRow 27 = .ok (.istore_n 1, 1) := by decide +kernel
theorem dX4_isRow_28 : decode cX4_isRow 28 = .ok (.iload_n 1, 1) := by decide +kernel
theorem dX4_isRow_29 : decode cX4_isRow 29 = .ok (.aload_n 0, 1) := by decide +kernel
theorem dX4_isRow_30 : decode cX4_isRow 30 = .ok (.getfield 35, 3) := by decide +kernel
theorem dX4_isRow_33 : decode cX4_isRow 33 = .ok (.if_icmp .ge 33, 3) := by decide +kernel
theorem dX4_isRow_36 : decode cX4_isRow 36 = .ok (.aload_n 0, 1) := by decide +kernel
theorem dX4_isRow_37 : decode cX4_isRow 37 = .ok (.getfield 18, 3) := by decide +kernel
theorem dX4_isRow_40 : decode cX4_isRow 40 = .ok (.iload_n 1, 1) := by decide +kernel
theorem dX4_isRow_41 : decode cX4_isRow 41 = .ok (.baload, 1) := by decide +kernel
theorem dX4_isRow_42 : decode cX4_isRow 42 = .ok (.bipush 120, 2) := by decide +kernel
theorem dX4_isRow_44 : decode cX4_isRow 44 = .ok (.if_icmp .eq 16, 3) := by decide +kernel
theorem dX4_isRow_47 : decode cX4_isRow 47 = .ok (.aload_n 0, 1) := by decide +kernel
theorem dX4_isRow_48 : decode cX4_isRow 48 = .ok (.getfield 18, 3) := by decide +kernel
theorem dX4_isRow_51 : decode cX4_isRow 51 = .ok (.iload_n 1, 1) := by decide +kernel
theorem dX4_isRow_52 : decode cX4_isRow 52 = .ok (.baload, 1) := by decide +kernel
theorem dX4_isRow_53 : decode cX4_isRow 53 = .ok (.bipush 111, 2) := by decide +kernel
theorem dX4_isRow_55 : decode cX4_isRow 55 = .ok (.if_icmp .eq 5, 3) := by decide +kernel
theorem dX4_isRow_58 : decode cX4_isRow 58 = .ok (.iconst 0, 1) := by decide +kernel
theorem dX4_isRow_59 : decode cX4_isRow 59 = .ok (.ireturn, 1) := by decide +kernel
theorem dX4_isRow_60 : decode cX4_isRow 60 = .ok (.iinc 1 1, 3) := by decide +kernel
theorem dX4_isRow_63 : decode cX4_isRow 63 = .ok (.goto (-35), 3) := by decide +kernel
theorem dX4_isRow_66 : decode cX4_isRow 66 = .ok (.iconst 1, 1) := by decide +kernel
theorem dX4_isRow_67 : decode cX4_isRow 67 = .ok (.ireturn, 1) := by decide +kernel
theorem dX4_rowBits_0 : decode cX4_rowBits 0 = .ok (.iconst 0, 1) := by decide +kernel
theorem dX4_rowBits_1 : decode cX4_rowBits 1 = .ok (.istore_n 1, 1) := by decide +kernel
theorem dX4_rowBits_2 : decode cX4_rowBits 2 = .ok (.aload_n 0, 1) := by decide +kernel
theorem dX4_rowBits_3 : decode cX4_rowBits 3 = .ok (.getfield 100, 3) := by decide +kernel
theorem dX4_rowBits_6 : decode cX4_rowBits 6 = .ok (.istore_n 2, 1) := by decide +kernel
theorem dX4_rowBits_7 : decode cX4_rowBits 7 = .ok (.iload_n 2, 1) := by decide +kernel
theorem dX4_rowBits_8 : decode cX4_rowBits 8 = .ok (.aload_n 0, 1) := by decide +kernel
theorem dX4_rowBits_9 : decode cX4_rowBits 9 = .ok (.getfield 35, 3) := by decide +kernel
theorem dX4_rowBits_12 : decode cX4_rowBits 12 = .ok (.if_icmp .ge 31, 3) := by decide +kernel
theorem dX4_rowBits_15 : decode cX4_rowBits 15 = .ok (.aload_n 0, 1) := by decide +kernel
theorem dX4_rowBits_16 : decode cX4_rowBits 16 = .ok (.getfield 18, 3) := by decide +kernel
theorem dX4_rowBits_19 : decode cX4_rowBits 19 = .ok (.iload_n 2, 1) := by decide +kernel
theorem dX4_rowBits_20 : decode cX4_rowBits 20 = .ok (.baload, 1) := by decide +kernel
theorem dX4_rowBits_21 : decode cX4_rowBits 21 = .ok (.bipush 120, 2) := by decide +kernel
theorem dX4_rowBits_23 : decode cX4_rowBits 23 = .ok (.if_icmp .ne 14, 3) := by decide +kernel
theorem dX4_rowBits_26 : decode cX4_rowBits 26 = .ok (.iload_n 1, 1) := by decide +kernel
theorem dX4_rowBits_27 : decode cX4_rowBits 27 = .ok (.iconst 1, 1) := by decide +kernel
theorem dX4_rowBits_28 : decode cX4_rowBits 28 = .ok (.iload_n 2, 1) := by decide +kernel
theorem dX4_rowBits_29 : decode cX4_rowBits 29 = .ok (.aload_n 0, 1) := by decide +kernel
theorem dX4_rowBits_30 : decode cX4_rowBits 30 = .ok (.getfield 100, 3) := by decide +kernel
theorem dX4_rowBits_33 : decode cX4_rowBits 33 = .ok (.isub, 1) := by decide +kernel
theorem dX4_rowBits_34 : decode cX4_rowBits 34 = .ok (.ishl, 1) := by decide +kernel
theorem dX4_rowBits_35 : decode cX4_rowBits 35 = .ok (.ior, 1) := by decide +kernel
theorem dX4_rowBits_36 : decode cX4_rowBits 36 = .ok (.istore_n 1, 1) := by decide +kernel
theorem dX4_rowBits_37 : decode cX4_rowBits 37 = .ok (.iinc 2 1, 3) := by decide +kernel
theorem dX4_rowBits_40 : decode cX4_rowBits 40 = .ok (.goto (-33), 3) := by decide +kernel
theorem dX4_rowBits_43 : decode cX4_rowBits 43 = .ok (.iload_n 1, 1) := by decide +kernel
theorem dX4_rowBits_44 : decode cX4_rowBits 44 = .ok (.ireturn, 1) := by decide +kernel
theorem dX4_isBlank_0 : decode cX4_isBlank 0 = .ok (.iload_n 0, 1) := by decide +kernel
theorem dX4_isBlank_1 : decode cX4_isBlank 1 = .ok (.bipush 32, 2) := by decide +kernel
theorem dX4_isBlank_3 : decode cX4_isBlank 3 = .ok (.if_icmp .eq 9, 3) := by decide +kernel
theorem dX4_isBlank_6 : decode cX4_isBlank 6 = .ok (.iload_n 0, 1) := by decide +kernel
theorem dX4_isBlank_7 : decode cX4_isBlank 7 = .ok (.bipush 10, 2) := by decide +kernel
theorem dX4_isBlank_9 : decode cX4_isBlank 9 = .ok (.if_icmp .ne 7, 3) := by decide +kernel
theorem dX4_isBlank_12 : decode cX4_isBlank 12 = .ok (.iconst 1, 1) := by decide +kernel
theorem dX4_isBlank_13 : decode cX4_isBlank 13 = .ok (.goto 4, 3) := by decide +kernel
theorem dX4_isBlank_16 : decode cX4_isBlank 16 = .ok (.iconst 0, 1) := by decide +kernel
theorem dX4_isBlank_17 : decode cX4_isBlank 17 = .ok (.ireturn, 1) := by decide +kernel
theorem dX4_isLetter_0 : decode cX4_isLetter 0 = .ok (.iload_n 0, 1) := by decide +kernel
theorem dX4_isLetter_1 : decode cX4_isLetter 1 = .ok (.bipush 97, 2) := by decide +kernel
theorem dX4_isLetter_3 : decode cX4_isLetter 3 = .ok (.if_icmp .lt 13, 3) := by decide +kernel
theorem dX4_isLetter_6 : decode cX4_isLetter 6 = .ok (.iload_n 0, 1) := by decide +kernel
theorem dX4_isLetter_7 : decode cX4_isLetter 7 = .ok (.bipush 122, 2) := by decide +kernel
theorem dX4_isLetter_9 : decode cX4_isLetter 9 = .ok (.if_icmp .gt 7, 3) := by decide +kernel
theorem dX4_isLetter_12 : decode cX4_isLetter 12 = .ok (.iconst 1, 1) := by decide +kernel
theorem dX4_isLetter_13 : decode cX4_isLetter 13 = .ok (.goto 4, 3) := by decide +kernel
theorem dX4_isLetter_16 : decode cX4_isLetter 16 = .ok (.iconst 0, 1) := by decide +kernel
theorem dX4_isLetter_17 : decode cX4_isLetter 17 = .ok (.ireturn, 1) := by decide +kernel
theorem dX4_isDigit_0 : decode cX4_isDigit 0 = .ok (.iload_n 0, 1) := by decide +kernel
theorem dX4_isDigit_1 : decode cX4_isDigit 1 = .ok (.bipush 48, 2) := by decide +kernel
theorem dX4_isDigit_3 : decode cX4_isDigit 3 = .ok (.if_icmp .lt 13, 3) := by decide +kernel
theorem dX4_isDigit_6 : decode cX4_isDigit 6 = .ok (.iload_n 0, 1) := by decide +kernel
theorem dX4_isDigit_7 : decode cX4_isDigit 7 = .ok (.bipush 57, 2) := by decide +kernel
theorem dX4_isDigit_9 : decode cX4_isDigit 9 = .ok (.if_icmp .gt 7, 3) := by decide +kernel
theorem dX4_isDigit_12 : decode cX4_isDigit 12 = .ok (.iconst 1, 1) := by decide +kernel
theorem dX4_isDigit_13 : decode cX4_isDigit 13 = .ok (.goto 4, 3) := by decide +kernel
theorem dX4_isDigit_16 : decode cX4_isDigit 16 = .ok (.iconst 0, 1) := by decide +kernel
theorem dX4_isDigit_17 : decode cX4_isDigit 17 = .ok (.ireturn, 1) := by decide +kernel
theorem dX5_init_0 : decode cX5_init 0 = .ok (.aload_n 0, 1) := by decide +kernel
theorem dX5_init_1 : decode cX5_init 1 = .ok (.invokespecial 3, 3) := by decide +kernel
theorem dX5_init_4 : decode cX5_init 4 = .ok (.aload_n 0, 1) := by decide +kernel
theorem dX5_init_5 : decode cX5_init 5 = .ok (.bipush 13, 2) := by decide +kernel
theorem dX5_init_7 : decode cX5_init 7 = .ok (.newarray .int, 2) := by decide +kernel
theorem dX5_init_9 : decode cX5_init 9 = .ok (.putfield 9, 3) := by decide +kernel
theorem dX5_init_12 : decode cX5_init 12 = .ok (.aload_n 0, 1) := by decide +kernel
theorem dX5_init_13 : decode cX5_init 13 = .ok (.bipush 13, 2) := by decide +kernel
theorem dX5_init_15 : decode cX5_init 15 = .ok (.newarray .int, 2) := by decide +kernel
theorem dX5_init_17 : decode cX5_init 17 = .ok (.putfield 15, 3) := by decide +kernel
theorem dX5_init_20 : decode cX5_init 20 = .ok (.aload_n 0, 1) := by decide +kernel
theorem dX5_init_21 : decode cX5_init 21 = .ok (.aload_n 1, 1) := by decide +kernel
theorem dX5_init_22 : decode cX5_init 22 = .ok (.putfield 18, 3) := by decide +kernel
theorem dX5_init_25 : decode cX5_init 25 = .ok (.return_, 1) := by decide +kernel
set_option maxRecDepth 20000 in
theorem ggX5_find_J7_fill_53178 : GoodIn wsX5_find wsJ7_fill_53178 := goodIn_r _ [13] (by decide +kernel) (by decide +kernel)
set_option maxRecDepth 20000 in
theorem gX5_find_J7_fill_53178 : GoodIn wsX5_find (va_wsS RX5 33 yJ7_fill_53178 wsJ7_fill_53178) := goodIn_app (goodIn_of _ (by decide +kernel)) ggX5_find_J7_fill_53178
set_option maxRecDepth 20000 in
theorem ggX5_find_X0_sign : GoodIn wsX5_find wsX0_sign := goodIn_r _ [18, 19, 54, 55, 56, 57, 58, 59, 60, 61, 62, 63, 64, 65] (by decide +kernel) (by decide +kernel)
set_option maxRecDepth 20000 in
theorem gX5_find_X0_sign : GoodIn wsX5_find (wsV RX5 49 RX0 yX0_sign wsX0_sign) := goodIn_app (goodIn_of _ (by decide +kernel)) ggX5_find_X0_sign
set_option maxRecDepth 20000 in
theorem ggX5_find_X0_addMatches : GoodIn wsX5_find wsX0_addMatches := goodIn_r _ [23, 24, 25, 26, 27, 28, 29, 30, 31, 32, 33, 34, 35, 54, 55, 56, 57, 58, 59, 60, 61, 62, 63, 64, 65, 66, 67, 68, 69, 70, 71] (by decide +kernel) (by decide +kernel)
set_option maxRecDepth 20000 in
theorem gX5_find_X0_addMatches : GoodIn wsX5_find (wsV RX5 53 RX0 yX0_addMatches wsX0_addMatches) := goodIn_app (goodIn_of _ (by decide +kernel)) ggX5_find_X0_addMatches
set_option maxRecDepth 20000 in
theorem ggX5_find_X5_tryAt : GoodIn wsX5_find wsX5_tryAt := goodIn_r _ [40, 8, 4, 5, 41, 42, 43, 44, 45, 17, 46, 47, 48, 49, 50, 51, 52, 53] (by decide +kernel) (by decide +kernel)
set_option maxRecDepth 20000 in
theorem gX5_find_X5_tryAt : GoodIn wsX5_find (wsV RX5 61 RX5 yX5_tryAt wsX5_tryAt) := goodIn_app (goodIn_of _ (by decide +kernel)) ggX5_find_X5_tryAt
theorem dX5_find_0 : decode cX5_find 0 = .ok (.aload_n 0, 1) := by decide +kernel
theorem dX5_find_1 : decode cX5_find 1 = .ok (.getfield 18, 3) := by decide +kernel
theorem dX5_find_4 : decode cX5_find 4 = .ok (.getfield 22, 3) := by decide +kernel
theorem dX5_find_7 : decode cX5_find 7 = .ok (.getfield 28, 3) := by decide +kernel
theorem dX5_find_10 : decode cX5_find 10 = .ok (.iload_n 1, 1) := by decide +kernel
theorem dX5_find_11 : decode cX5_find 11 = .ok (.iaload, 1) := by decide +kernel
theorem dX5_find_12 : decode cX5_find 12 = .ok (.istore_n 2, 1) := by decide +kernel
theorem dX5_find_13 : decode cX5_find 13 = .ok (.aload_n 0, 1) := by decide +kernel
theorem dX5_find_14 : decode cX5_find 14 = .ok (.getfield 9, 3) := by decide +kernel
theorem dX5_find_17 : decode cX5_find 17 = .ok (.iconst 0, 1) := by decide +kernel
theorem dX5_find_18 : decode cX5_find 18 = .ok (.invokestatic 33, 3) := by decide +kernel
theorem dX5_find_21 : decode cX5_find 21 = .ok (.aload_n 0, 1) := by decide +kernel
theorem dX5_find_22 : decode cX5_find 22 = .ok (.iconst 0, 1) := by decide +kernel
theorem dX5_find_23 : decode cX5_find 23 = .ok (.putfield 39, 3) := by decide +kernel
theorem dX5_find_26 : decode cX5_find 26 = .ok (.iconst 1, 1) := by decide +kernel
theorem dX5_find_27 : decode cX5_find 27 = .ok (.istore_n 3, 1) := by decide +kernel
theorem dX5_find_28 : decode cX5_find 28 = .ok (.iload_n 3, 1) := by decide +kernel
theorem dX5_find_29 : decode cX5_find 29 = .ok (.aload_n 0, 1) := by decide +kernel
theorem dX5_find_30 : decode cX5_find 30 = .ok (.getfield 18, 3) := by decide +kernel
theorem dX5_find_33 : decode cX5_find 33 = .ok (.getfield 43, 3) := by decide +kernel
theorem dX5_find_36 : decode cX5_find 36 = .ok (.if_icmp .ge 90, 3) := by decide +kernel
theorem dX5_find_39 : decode cX5_find 39 = .ok (.aload_n 0, 1) := by decide +kernel
theorem dX5_find_40 : decode cX5_find 40 = .ok (.getfield 18, 3) := by decide +kernel
theorem dX5_find_43 : decode cX5_find 43 = .ok (.aload_n 0, 1) := by decide +kernel
theorem dX5_find_44 : decode cX5_find 44 = .ok (.getfield 9, 3) := by decide +kernel
theorem dX5_find_47 : decode cX5_find 47 = .ok (.iload_n 1, 1) := by decide +kernel
theorem dX5_find_48 : decode cX5_find 48 = .ok (.aload_n 0, 1) := by decide +kernel
theorem dX5_find_49 : decode cX5_find 49 = .ok (.getfield 18, 3) := by decide +kernel
theorem dX5_find_52 : decode cX5_find 52 = .ok (.getfield 46, 3) := by decide +kernel
theorem dX5_find_55 : decode cX5_find 55 = .ok (.iload_n 3, 1) := by decide +kernel
theorem dX5_find_56 : decode cX5_find 56 = .ok (.iadd, 1) := by decide +kernel
theorem dX5_find_57 : decode cX5_find 57 = .ok (.iconst 1, 1) := by decide +kernel
theorem dX5_find_58 : decode cX5_find 58 = .ok (.isub, 1) := by decide +kernel
theorem dX5_find_59 : decode cX5_find 59 = .ok (.aload_n 0, 1) := by decide +kernel
theorem dX5_find_60 : decode cX5_find 60 = .ok (.getfield 18, 3) := by decide +kernel
theorem dX5_find_63 : decode cX5_find 63 = .ok (.iload_n 3, 1) := by decide +kernel
theorem dX5_find_64 : decode cX5_find 64 = .ok (.iconst 1, 1) := by decide +kernel
theorem dX5_find_65 : decode cX5_find 65 = .ok (.isub, 1) := by decide +kernel
theorem dX5_find_66 : decode cX5_find 66 = .ok (.invokevirtual 49, 3) := by decide +kernel
theorem dX5_find_69 : decode cX5_find 69 = .ok (.invokevirtual 53, 3) := by decide +kernel
theorem dX5_find_72 : decode cX5_find 72 = .ok (.iconst 0, 1) := by decide +kernel
theorem dX5_find_73 : decode cX5_find 73 = .ok (.istore 4, 2) := by decide +kernel
theorem dX5_find_75 : decode cX5_find 75 = .ok (.iload 4, 2) := by decide +kernel
theorem dX5_find_77 : decode cX5_find 77 = .ok (.iload_n 2, 1) := by decide +kernel
theorem dX5_find_78 : decode cX5_find 78 = .ok (.if_icmp .ge 36, 3) := by decide +kernel
theorem dX5_find_81 : decode cX5_find 81 = .ok (.aload_n 0, 1) := by decide +kernel
theorem dX5_find_82 : decode cX5_find 82 = .ok (.getfield 15, 3) := by decide +kernel
theorem dX5_find_85 : decode cX5_find 85 = .ok (.iload 4, 2) := by decide +kernel
theorem dX5_find_87 : decode cX5_find 87 = .ok (.aload_n 0, 1) := by decide +kernel
theorem dX5_find_88 : decode cX5_find 88 = .ok (.getfield 18, 3) := by decide +kernel
theorem dX5_find_91 : decode cX5_find 91 = .ok (.getfield 57, 3) := by decide +kernel
theorem dX5_find_94 : decode cX5_find 94 = .ok (.iload_n 1, 1) := by decide +kernel
theorem dX5_find_95 : decode cX5_find 95 = .ok (.aaload, 1) := by decide +kernel
theorem dX5_find_96 : decode cX5_find 96 = .ok (.iload 4, 2) := by decide +kernel
theorem dX5_find_98 : decode cX5_find 98 = .ok (.iaload, 1) := by decide +kernel
theorem dX5_find_99 : decode cX5_find 99 = .ok (.aload_n 0, 1) := by decide +kernel
theorem dX5_find_100 : decode cX5_find 100 = .ok (.getfield 9, 3) := by decide +kernel
theorem dX5_find_103 : decode cX5_find 103 = .ok (.iload 4, 2) := by decide +kernel
theorem dX5_find_105 : decode cX5_find 105 = .ok (.iaload, 1) := by decide +kernel
theorem dX5_find_106 : decode cX5_find 106 = .ok (.isub, 1) := by decide +kernel
theorem dX5_find_107 : decode cX5_find 107 = .ok (.iastore, 1) := by decide +kernel
theorem dX5_find_108 : decode cX5_find 108 = .ok (.iinc 4 1, 3) := by decide +kernel
theorem dX5_find_111 : decode cX5_find 111 = .ok (.goto (-36), 3) := by decide +kernel
theorem dX5_find_114 : decode cX5_find 114 = .ok (.aload_n 0, 1) := by decide +kernel
theorem dX5_find_115 : decode cX5_find 115 = .ok (.iload_n 3, 1) := by decide +kernel
theorem dX5_find_116 : decode cX5_find 116 = .ok (.iload_n 2, 1) := by decide +kernel
theorem dX5_find_117 : decode cX5_find 117 = .ok (.invokevirtual 61, 3) := by decide +kernel
theorem dX5_find_120 : decode cX5_find 120 = .ok (.iinc 3 1, 3) := by decide +kernel
theorem dX5_find_123 : decode cX5_find 123 = .ok (.goto (-95), 3) := by decide +kernel
theorem dX5_find_126 : decode cX5_find 126 = .ok (.return_, 1) := by decide +kernel
set_option maxRecDepth 20000 in
theorem ggX5_tryAt_X0_greatest : GoodIn wsX5_tryAt wsX0_greatest := goodIn_r _ [10] (by decide +kernel) (by decide +kernel)
set_option maxRecDepth 20000 in
theorem gX5_tryAt_X0_greatest : GoodIn wsX5_tryAt (va_wsS RX5 65 yX0_greatest wsX0_greatest) := goodIn_app (goodIn_of _ (by decide +kernel)) ggX5_tryAt_X0_greatest
theorem dX5_tryAt_0 : decode cX5_tryAt 0 = .ok (.aload_n 0, 1) := by decide +kernel
theorem dX5_tryAt_1 : decode cX5_tryAt 1 = .ok (.getfield 15, 3) := by decide +kernel
theorem dX5_tryAt_4 : decode cX5_tryAt 4 = .ok (.iload_n 2, 1) := by decide +kernel
theorem dX5_tryAt_5 : decode cX5_tryAt 5 = .ok (.iconst (-1), 1) := by decide +kernel
theorem dX5_tryAt_6 : decode cX5_tryAt 6 = .ok (.invokestatic 65, 3) := by decide +kernel
theorem dX5_tryAt_9 : decode cX5_tryAt 9 = .ok (.istore_n 3, 1) := by decide +kernel
theorem dX5_tryAt_10 : decode cX5_tryAt 10 = .ok (.aload_n 0, 1) := by decide +kernel
theorem dX5_tryAt_11 : decode cX5_tryAt 11 = .ok (.getfield 15, 3) := by decide +kernel
theorem dX5_tryAt_14 : decode cX5_tryAt 14 = .ok (.iload_n 2, 1) := by decide +kernel
theorem dX5_tryAt_15 : decode cX5_tryAt 15 = .ok (.iload_n 3, 1) := by decide +kernel
theorem dX5_tryAt_16 : decode cX5_tryAt 16 = .ok (.invokestatic 65, 3) := by decide +kernel
theorem dX5_tryAt_19 : decode cX5_tryAt 19 = .ok (.istore 4, 2) := by decide +kernel
theorem dX5_tryAt_21 : decode cX5_tryAt 21 = .ok (.iconst 0, 1) := by decide +kernel
theorem dX5_tryAt_22 : decode cX5_tryAt 22 = .ok (.istore 5, 2) := by decide +kernel
theorem dX5_tryAt_24 : decode cX5_tryAt 24 = .ok (.iload 5, 2) := by decide +kernel
theorem dX5_tryAt_26 : decode cX5_tryAt 26 = .ok (.iload_n 2, 1) := by decide +kernel
theorem dX5_tryAt_27 : decode cX5_tryAt 27 = .ok (.if_icmp .ge 79, 3) := by decide +kernel
theorem dX5_tryAt_30 : decode cX5_tryAt 30 = .ok (.iload 5, 2) := by decide +kernel
theorem dX5_tryAt_32 : decode cX5_tryAt 32 = .ok (.iload_n 3, 1) := by decide +kernel
theorem dX5_tryAt_33 : decode cX5_tryAt 33 = .ok (.if_icmp .ne 8, 3) := by decide +kernel
theorem dX5_tryAt_36 : decode cX5_tryAt 36 = .ok (.iload 4, 2) := by decide +kernel
theorem dX5_tryAt_38 : decode cX5_tryAt 38 = .ok (.goto 4, 3) := by decide +kernel
theorem dX5_tryAt_41 : decode cX5_tryAt 41 = .ok (.iload_n 3, 1) := by decide +kernel
theorem dX5_tryAt_42 : decode cX5_tryAt 42 = .ok (.istore 6, 2) := by decide +kernel
theorem dX5_tryAt_44 : decode cX5_tryAt 44 = .ok (.aload_n 0, 1) := by decide +kernel
theorem dX5_tryAt_45 : decode cX5_tryAt 45 = .ok (.getfield 9, 3) := by decide +kernel
theorem dX5_tryAt_48 : decode cX5_tryAt 48 = .ok (.iload 5, 2) := by decide +kernel
theorem dX5_tryAt_50 : decode cX5_tryAt 50 = .ok (.iaload, 1) := by decide +kernel
theorem dX5_tryAt_51 : decode cX5_tryAt 51 = .ok (.aload_n 0, 1) := by decide +kernel
theorem dX5_tryAt_52 : decode cX5_tryAt 52 = .ok (.getfield 15, 3) := by decide +kernel
theorem dX5_tryAt_55 : decode cX5_tryAt 55 = .ok (.iload 6, 2) := by decide +kernel
theorem dX5_tryAt_57 : decode cX5_tryAt 57 = .ok (.iaload, 1) := by decide +kernel
theorem dX5_tryAt_58 : decode cX5_tryAt 58 = .ok (.iadd, 1) := by decide +kernel
theorem dX5_tryAt_59 : decode cX5_tryAt 59 = .ok (.istore 7, 2) := by decide +kernel
theorem dX5_tryAt_61 : decode cX5_tryAt 61 = .ok (.aload_n 0, 1) := by decide +kernel
theorem dX5_tryAt_62 : decode cX5_tryAt 62 = .ok (.getfield 39, 3) := by decide +kernel
theorem dX5_tryAt_65 : decode cX5_tryAt 65 = .ok (.ifCond .eq 12, 3) := by decide +kernel
theorem dX5_tryAt_68 : decode cX5_tryAt 68 = .ok (.iload 7, 2) := by decide +kernel
theorem dX5_tryAt_70 : decode cX5_tryAt 70 = .ok (.aload_n 0, 1) := by decide +kernel
theorem dX5_tryAt_71 : decode cX5_tryAt 71 = .ok (.getfield 69, 3) := by decide +kernel
theorem dX5_tryAt_74 : decode cX5_tryAt 74 = .ok (.if_icmp .le 26, 3) := by decide +kernel
theorem dX5_tryAt_77 : decode cX5_tryAt 77 = .ok (.aload_n 0, 1) := by decide +kernel
theorem dX5_tryAt_78 : decode cX5_tryAt 78 = .ok (.iload_n 1, 1) := by decide +kernel
theorem dX5_tryAt_79 : decode cX5_tryAt 79 = .ok (.putfield 39, 3) := by decide +kernel
theorem dX5_tryAt_82 : decode cX5_tryAt 82 = .ok (.aload_n 0, 1) := by decide +kernel
theorem dX5_tryAt_83 : decode cX5_tryAt 83 = .ok (.iload 5, 2) := by decide +kernel
theorem dX5_tryAt_85 : decode cX5_tryAt 85 = .ok (.putfield 72, 3) := by decide +kernel
theorem dX5_tryAt_88 : decode cX5_tryAt 88 = .ok (.aload_n 0, 1) := by decide +kernel
theorem dX5_tryAt_89 : decode cX5_tryAt 89 = .ok (.iload 6, 2) := by decide +kernel
theorem dX5_tryAt_91 : decode cX5_tryAt 91 = .ok (.putfield 75, 3) := by decide +kernel
theorem dX5_tryAt_94 : decode cX5_tryAt 94 = .ok (.aload_n 0, 1) := by decide +kernel
theorem dX5_tryAt_95 : decode cX5_tryAt 95 = .ok (.iload 7, 2) := by decide +kernel
theorem dX5_tryAt_97 : decode cX5_tryAt 97 = .ok (.putfield 69, 3) := by decide +kernel
theorem dX5_tryAt_100 : decode cX5_tryAt 100 = .ok (.iinc 5 1, 3) := by decide +kernel
theorem dX5_tryAt_103 : decode cX5_tryAt 103 = .ok (.goto (-79), 3) := by decide +kernel
theorem dX5_tryAt_106 : decode cX5_tryAt 106 = .ok (.return_, 1) := by decide +kernel
theorem dX6_init_0 : decode cX6_init 0 = .ok (.aload_n 0, 1) := by decide +kernel
theorem dX6_init_1 : decode cX6_init 1 = .ok (.invokespecial 5, 3) := by decide +kernel
theorem dX6_init_4 : decode cX6_init 4 = .ok (.aload_n 0, 1) := by decide +kernel
theorem dX6_init_5 : decode cX6_init 5 = .ok (.bipush 6, 2) := by decide +kernel
theorem dX6_init_7 : decode cX6_init 7 = .ok (.newarray .int, 2) := by decide +kernel
theorem dX6_init_9 : decode cX6_init 9 = .ok (.putfield 11, 3) := by decide +kernel
theorem dX6_init_12 : decode cX6_init 12 = .ok (.aload_n 0, 1) := by decide +kernel
theorem dX6_init_13 : decode cX6_init 13 = .ok (.bipush 6, 2) := by decide +kernel
theorem dX6_init_15 : decode cX6_init 15 = .ok (.newarray .int, 2) := by decide +kernel
theorem dX6_init_17 : decode cX6_init 17 = .ok (.putfield 15, 3) := by decide +kernel
theorem dX6_init_20 : decode cX6_init 20 = .ok (.aload_n 0, 1) := by decide +kernel
theorem dX6_init_21 : decode cX6_init 21 = .ok (.bipush 64, 2) := by decide +kernel
theorem dX6_init_23 : decode cX6_init 23 = .ok (.newarray .int, 2) := by decide +kernel
theorem dX6_init_25 : decode cX6_init 25 = .ok (.putfield 18, 3) := by decide +kernel
theorem dX6_init_28 : decode cX6_init 28 = .ok (.aload_n 0, 1) := by decide +kernel
theorem dX6_init_29 : decode cX6_init 29 = .ok (.bipush 64, 2) := by decide +kernel
theorem dX6_init_31 : decode cX6_init 31 = .ok (.newarray .int, 2) := by decide +kernel
theorem dX6_init_33 : decode cX6_init 33 = .ok (.putfield 21, 3) := by decide +kernel
theorem dX6_init_36 : decode cX6_init 36 = .ok (.aload_n 0, 1) := by decide +kernel
theorem dX6_init_37 : decode cX6_init 37 = .ok (.bipush 64, 2) := by decide +kernel
theorem dX6_init_39 : decode cX6_init 39 = .ok (.newarray .int, 2) := by decide +kernel
theorem dX6_init_41 : decode cX6_init 41 = .ok (.putfield 24, 3) := by decide +kernel
theorem dX6_init_44 : decode cX6_init 44 = .ok (.return_, 1) := by decide +kernel
theorem dX6_takeCode_0 : decode cX6_takeCode 0 = .ok (.aload_n 0, 1) := by decide +kernel
theorem dX6_takeCode_1 : decode cX6_takeCode 1 = .ok (.aload_n 1, 1) := by decide +kernel
theorem dX6_takeCode_2 : decode cX6_takeCode 2 = .ok (.getfield 27, 3) := by decide +kernel
theorem dX6_takeCode_5 : decode cX6_takeCode 5 = .ok (.putfield 33, 3) := by decide +kernel
theorem dX6_takeCode_8 : decode cX6_takeCode 8 = .ok (.aload_n 0, 1) := by decide +kernel
theorem dX6_takeCode_9 : decode cX6_takeCode 9 = .ok (.aload_n 1, 1) := by decide +kernel
theorem dX6_takeCode_10 : decode cX6_takeCode 10 = .ok (.getfield 27, 3) := by decide +kernel
theorem dX6_takeCode_13 : decode cX6_takeCode 13 = .ok (.putfield 34, 3) := by decide +kernel
theorem dX6_takeCode_16 : decode cX6_takeCode 16 = .ok (.aload_n 1, 1) := by decide +kernel
theorem dX6_takeCode_17 : decode cX6_takeCode 17 = .ok (.getfield 37, 3) := by decide +kernel
theorem dX6_takeCode_20 : decode cX6_takeCode 20 = .ok (.iconst 0, 1) := by decide +kernel
theorem dX6_takeCode_21 : decode cX6_takeCode 21 = .ok (.aload_n 0, 1) := by decide +kernel
theorem dX6_takeCode_22 : decode cX6_takeCode 22 = .ok (.getfield 11, 3) := by decide +kernel
theorem dX6_takeCode_25 : decode cX6_takeCode 25 = .ok (.iconst 0, 1) := by decide +kernel
theorem dX6_takeCode_26 : decode cX6_takeCode 26 = .ok (.iconst 5, 1) := by decide +kernel
theorem dX6_takeCode_27 : decode cX6_takeCode 27 = .ok (.invokestatic 38, 3) := by decide +kernel
theorem dX6_takeCode_30 : decode cX6_takeCode 30 = .ok (.aload_n 1, 1) := by decide +kernel
theorem dX6_takeCode_31 : decode cX6_takeCode 31 = .ok (.getfield 44, 3) := by decide +kernel
theorem dX6_takeCode_34 : decode cX6_takeCode 34 = .ok (.iconst 0, 1) := by decide +kernel
theorem dX6_takeCode_35 : decode cX6_takeCode 35 = .ok (.aload_n 0, 1) := by decide +kernel
theorem dX6_takeCode_36 : decode cX6_takeCode 36 = .ok (.getfield 15, 3) := by decide +kernel
theorem dX6_takeCode_39 : decode cX6_takeCode 39 = .ok (.iconst 0, 1) := by decide +kernel
theorem dX6_takeCode_40 : decode cX6_takeCode 40 = .ok (.iconst 5, 1) := by decide +kernel
theorem dX6_takeCode_41 : decode cX6_takeCode 41 = .ok (.invokestatic 38, 3) := by decide +kernel
theorem dX6_takeCode_44 : decode cX6_takeCode 44 = .ok (.return_, 1) := by decide +kernel
theorem dX6_addRow_0 : decode cX6_addRow 0 = .ok (.aload_n 0, 1) := by decide +kernel
theorem dX6_addRow_1 : decode cX6_addRow 1 = .ok (.getfield 11, 3) := by decide +kernel
theorem dX6_addRow_4 : decode cX6_addRow 4 = .ok (.aload_n 0, 1) := by decide +kernel
theorem dX6_addRow_5 : decode cX6_addRow 5 = .ok (.getfield 33, 3) := by decide +kernel
theorem dX6_addRow_8 : decode cX6_addRow 8 = .ok (.iload_n 1, 1) := by decide +kernel
theorem dX6_addRow_9 : decode cX6_addRow 9 = .ok (.iastore, 1) := by decide +kernel
theorem dX6_addRow_10 : decode cX6_addRow 10 = .ok (.aload_n 0, 1) := by decide +kernel
theorem dX6_addRow_11 : decode cX6_addRow 11 = .ok (.getfield 15, 3) := by decide +kernel
theorem dX6_addRow_14 : decode cX6_addRow 14 = .ok (.aload_n 0, 1) := by decide +kernel
theorem dX6_addRow_15 : decode cX6_addRow 15 = .ok (.getfield 33, 3) := by decide +kernel
theorem dX6_addRow_18 : decode cX6_addRow 18 = .ok (.iload_n 2, 1) := by decide +kernel
theorem dX6_addRow_19 : decode cX6_addRow 19 = .ok (.iastore, 1) := by decide +kernel
theorem dX6_addRow_20 : decode cX6_addRow 20 = .ok (.aload_n 0, 1) := by decide +kernel
theorem dX6_addRow_21 : decode cX6_addRow 21 = .ok (.aload_n 0, 1) := by decide +kernel
theorem dX6_addRow_22 : decode cX6_addRow 22 = .ok (.getfield 33, 3) := by decide +kernel
theorem dX6_addRow_25 : decode cX6_addRow 25 = .ok (.iconst 1, 1) := by decide +kernel
theorem dX6_addRow_26 : decode cX6_addRow 26 = .ok (.iadd, 1) := by decide +kernel
theorem dX6_addRow_27 : decode cX6_addRow 27 = .ok (.putfield 34, 3) := by decide +kernel
theorem dX6_addRow_30 : decode cX6_addRow 30 = .ok (.aload_n 0, 1) := by decide +kernel
theorem dX6_addRow_31 : decode cX6_addRow 31 = .ok (.getfield 33, 3) := by decide +kernel
theorem dX6_addRow_34 : decode cX6_addRow 34 = .ok (.ireturn, 1) := by decide +kernel
set_option maxRecDepth 20000 in
theorem ggX6_countAll_J7_fill_53178 : GoodIn wsX6_countAll wsJ7_fill_53178 := goodIn_r _ [6] (by decide +kernel) (by decide +kernel)
set_option maxRecDepth 20000 in
theorem gX6_countAll_J7_fill_53178 : GoodIn wsX6_countAll (va_wsS RX6 46 yJ7_fill_53178 wsJ7_fill_53178) := goodIn_app (goodIn_of _ (by decide +kernel)) ggX6_countAll_J7_fill_53178
set_option maxRecDepth 20000 in
theorem ggX6_countAll_X6_kinOf : GoodIn wsX6_countAll wsX6_kinOf := goodIn_r _ [11, 12, 2, 13, 14, 15, 16, 17, 18, 40, 41, 42, 43, 44, 45, 46] (by decide +kernel) (by decide +kernel)
set_option maxRecDepth 20000 in
theorem gX6_countAll_X6_kinOf : GoodIn wsX6_countAll (wsV RX6 52 RX6 yX6_kinOf wsX6_kinOf) := goodIn_app (goodIn_of _ (by decide +kernel)) ggX6_countAll_X6_kinOf
set_option maxRecDepth 20000 in
theorem ggX6_countAll_X6_countKin : GoodIn wsX6_countAll wsX6_countKin := goodIn_r _ [22, 2, 12, 23, 16, 14, 17, 18, 13, 15, 3, 4, 5, 6, 24, 25, 26, 10, 27, 28, 29, 30, 40, 41, 42, 43, 44, 45, 46] (by decide +kernel) (by decide +kernel)
set_option maxRecDepth 20000 in
theorem gX6_countAll_X6_countKin : GoodIn wsX6_countAll (wsV RX6 56 RX6 yX6_countKin wsX6_countKin) := goodIn_app (goodIn_of _ (by decide +kernel)) ggX6_countAll_X6_countKin
set_option maxRecDepth 20000 in
theorem ggX6_countAll_X6_mix : GoodIn wsX6_countAll wsX6_mix := goodIn_r _ [34, 35, 1, 23, 36, 37, 38, 39, 3, 4, 5, 6, 40, 41, 42, 43, 44, 45, 46] (by decide +kernel) (by decide +kernel)
set_option maxRecDepth 20000 in
theorem gX6_countAll_X6_mix : GoodIn wsX6_countAll (wsV RX6 60 RX6 yX6_mix wsX6_mix) := goodIn_app (goodIn_of _ (by decide +kernel)) ggX6_countAll_X6_mix
theorem dX6_countAll_0 : decode cX6_countAll 0 = .ok (.aload_n 0, 1) := by decide +kernel
theorem dX6_countAll_1 : decode cX6_countAll 1 = .ok (.getfield 18, 3) := by decide +kernel
theorem dX6_countAll_4 : decode cX6_countAll 4 = .ok (.iconst 0, 1) := by decide +kernel
theorem dX6_countAll_5 : decode cX6_countAll 5 = .ok (.invokestatic 46, 3) := by decide +kernel
theorem dX6_countAll_8 : decode cX6_countAll 8 = .ok (.aload_n 0, 1) := by decide +kernel
theorem dX6_countAll_9 : decode cX6_countAll 9 = .ok (.getfield 18, 3) := by decide +kernel
theorem dX6_countAll_12 : decode cX6_countAll 12 = .ok (.iconst 0, 1) := by decide +kernel
theorem dX6_countAll_13 : decode cX6_countAll 13 = .ok (.iconst 1, 1) := by decide +kernel
theorem dX6_countAll_14 : decode cX6_countAll 14 = .ok (.iastore, 1) := by decide +kernel
theorem dX6_countAll_15 : decode cX6_countAll 15 = .ok (.iconst 0, 1) := by decide +kernel
theorem dX6_countAll_16 : decode cX6_countAll 16 = .ok (.istore_n 1, 1) := by decide +kernel
theorem dX6_countAll_17 : decode cX6_countAll 17 = .ok (.iconst 0, 1) := by decide +kernel
theorem dX6_countAll_18 : decode cX6_countAll 18 = .ok (.istore_n 2, 1) := by decide +kernel
theorem dX6_countAll_19 : decode cX6_countAll 19 = .ok (.iload_n 2, 1) := by decide +kernel
theorem dX6_countAll_20 : decode cX6_countAll 20 = .ok (.aload_n 0, 1) := by decide +kernel
theorem dX6_countAll_21 : decode cX6_countAll 21 = .ok (.getfield 34, 3) := by decide +kernel
theorem dX6_countAll_24 : decode cX6_countAll 24 = .ok (.if_icmp .ge 36, 3) := by decide +kernel
theorem dX6_countAll_27 : decode cX6_countAll 27 = .ok (.iload_n 1, 1) := by decide +kernel
theorem dX6_countAll_28 : decode cX6_countAll 28 = .ok (.iload_n 2, 1) := by decide +kernel
theorem dX6_countAll_29 : decode cX6_countAll 29 = .ok (.ishr, 1) := by decide +kernel
theorem dX6_countAll_30 : decode cX6_countAll 30 = .ok (.iconst 1, 1) := by decide +kernel
theorem dX6_countAll_31 : decode cX6_countAll 31 = .ok (.iand, 1) := by decide +kernel
theorem dX6_countAll_32 : decode cX6_countAll 32 = .ok (.ifCond .ne 22, 3) := by decide +kernel
theorem dX6_countAll_35 : decode cX6_countAll 35 = .ok (.aload_n 0, 1) := by decide +kernel
theorem dX6_countAll_36 : decode cX6_countAll 36 = .ok (.iload_n 2, 1) := by decide +kernel
theorem dX6_countAll_37 : decode cX6_countAll 37 = .ok (.invokevirtual 52, 3) := by decide +kernel
theorem dX6_countAll_40 : decode cX6_countAll 40 = .ok (.istore_n 3, 1) := by decide +kernel
theorem dX6_countAll_41 : decode cX6_countAll 41 = .ok (.aload_n 0, 1) := by decide +kernel
theorem dX6_countAll_42 : decode cX6_countAll 42 = .ok (.iload_n 3, 1) := by decide +kernel
theorem dX6_countAll_43 : decode cX6_countAll 43 = .ok (.invokevirtual 56, 3) := by decide +kernel
theorem dX6_countAll_46 : decode cX6_countAll 46 = .ok (.aload_n 0, 1) := by decide +kernel
theorem dX6_countAll_47 : decode cX6_countAll 47 = .ok (.invokevirtual 60, 3) := by decide +kernel
theorem dX6_countAll_50 : decode cX6_countAll 50 = .ok (.iload_n 1, 1) := by decide +kernel
theorem dX6_countAll_51 : decode cX6_countAll 51 = .ok (.iload_n 3, 1) := by decide +kernel
theorem dX6_countAll_52 : decode cX6_countAll 52 = .ok (.ior, 1) := by decide +kernel
theorem dX6_countAll_53 : decode cX6_countAll 53 = .ok (.istore_n 1, 1) := by decide +kernel
theorem dX6_countAll_54 : decode cX6_countAll 54 = .ok (.iinc 2 1, 3) := by decide +kernel
theorem dX6_countAll_57 : decode cX6_countAll 57 = .ok (.goto (-38), 3) := by decide +kernel
theorem dX6_countAll_60 : decode cX6_countAll 60 = .ok (.return_, 1) := by decide +kernel
set_option maxRecDepth 20000 in
theorem ggX6_kinOf_X8_commonDivisor : GoodIn wsX6_kinOf wsX8_commonDivisor := goodIn_r _ [5] (by decide +kernel) (by decide +kernel)
set_option maxRecDepth 20000 in
theorem gX6_kinOf_X8_commonDivisor_n63 : GoodIn wsX6_kinOf (wsX8_commonDivisor) := ggX6_kinOf_X8_commonDivisor
set_option maxRecDepth 20000 in
theorem ggX6_kinOf_X8_commonMultiple : GoodIn wsX6_kinOf wsX8_commonMultiple := goodIn_r _ [7, 8, 3, 4, 5] (by decide +kernel) (by decide +kernel)
set_option maxRecDepth 20000 in
theorem gX6_kinOf_X8_commonMultiple_n67 : GoodIn wsX6_kinOf (wsX8_commonMultiple) := ggX6_kinOf_X8_commonMultiple
theorem dX6_kinOf_0 : decode cX6_kinOf 0 = .ok (.iconst 1, 1) := by decide +kernel
theorem dX6_kinOf_1 : decode cX6_kinOf 1 = .ok (.iload_n 1, 1) := by decide +kernel
theorem dX6_kinOf_2 : decode cX6_kinOf 2 = .ok (.ishl, 1) := by decide +kernel
theorem dX6_kinOf_3 : decode cX6_kinOf 3 = .ok (.istore_n 2, 1) := by decide +kernel
theorem dX6_kinOf_4 : decode cX6_kinOf 4 = .ok (.aload_n 0, 1) := by decide +kernel
theorem dX6_kinOf_5 : decode cX6_kinOf 5 = .ok (.getfield 11, 3) := by decide +kernel
theorem dX6_kinOf_8 : decode cX6_kinOf 8 = .ok (.iload_n 1, 1) := by decide +kernel
theorem dX6_kinOf_9 : decode cX6_kinOf 9 = .ok (.iaload, 1) := by decide +kernel
theorem dX6_kinOf_10 : decode cX6_kinOf 10 = .ok (.istore_n 3, 1) := by decide +kernel
theorem dX6_kinOf_11 : decode cX6_kinOf 11 = .ok (.iconst 0, 1) := by decide +kernel
theorem dX6_kinOf_12 : decode cX6_kinOf 12 = .ok (.istore 4, 2) := by decide +kernel
theorem dX6_kinOf_14 : decode cX6_kinOf 14 = .ok (.iload 4, 2) := by decide +kernel
theorem dX6_kinOf_16 : decode cX6_kinOf 16 = .ok (.aload_n 0, 1) := by decide +kernel
theorem dX6_kinOf_17 : decode cX6_kinOf 17 = .ok (.getfield 34, 3) := by decide +kernel
theorem dX6_kinOf_20 : decode cX6_kinOf 20 = .ok (.if_icmp .ge 64, 3) := by decide +kernel
theorem dX6_kinOf_23 : decode cX6_kinOf 23 = .ok (.iconst 0, 1) := by decide +kernel
theorem dX6_kinOf_24 : decode cX6_kinOf 24 = .ok (.istore 5, 2) := by decide +kernel
theorem dX6_kinOf_26 : decode cX6_kinOf 26 = .ok (.iload 5, 2) := by decide +kernel
theorem dX6_kinOf_28 : decode cX6_kinOf 28 = .ok (.aload_n 0, 1) := by decide +kernel
theorem dX6_kinOf_29 : decode cX6_kinOf 29 = .ok (.getfield 34, 3) := by decide +kernel
theorem dX6_kinOf_32 : decode cX6_kinOf 32 = .ok (.if_icmp .ge 46, 3) := by decide +kernel
theorem dX6_kinOf_35 : decode cX6_kinOf 35 = .ok (.iload_n 3, 1) := by decide +kernel
theorem dX6_kinOf_36 : decode cX6_kinOf 36 = .ok (.i2l, 1) := by decide +kernel
theorem dX6_kinOf_37 : decode cX6_kinOf 37 = .ok (.aload_n 0, 1) := by decide +kernel
theorem dX6_kinOf_38 : decode cX6_kinOf 38 = .ok (.getfield 11, 3) := by decide +kernel
theorem dX6_kinOf_41 : decode cX6_kinOf 41 = .ok (.iload 5, 2) := by decide +kernel
theorem dX6_kinOf_43 : decode cX6_kinOf 43 = .ok (.iaload, 1) := by decide +kernel
theorem dX6_kinOf_44 : decode cX6_kinOf 44 = .ok (.i2l, 1) := by decide +kernel
theorem dX6_kinOf_45 : decode cX6_kinOf 45 = .ok (.invokestatic 63, 3) := by decide +kernel
theorem dX6_kinOf_48 : decode cX6_kinOf 48 = .ok (.lconst 1, 1) := by decide +kernel
theorem dX6_kinOf_49 : decode cX6_kinOf 49 = .ok (.lcmp, 1) := by decide +kernel
theorem dX6_kinOf_50 : decode cX6_kinOf 50 = .ok (.ifCond .le 22, 3) := by decide +kernel
theorem dX6_kinOf_53 : decode cX6_kinOf 53 = .ok (.iload_n 2, 1) := by decide +kernel
theorem dX6_kinOf_54 : decode cX6_kinOf 54 = .ok (.iconst 1, 1) := by decide +kernel
theorem dX6_kinOf_55 : decode cX6_kinOf 55 = .ok (.iload 5, 2) := by decide +kernel
theorem dX6_kinOf_57 : decode cX6_kinOf 57 = .ok (.ishl, 1) := by decide +kernel
theorem dX6_kinOf_58 : decode cX6_kinOf 58 = .ok (.ior, 1) := by decide +kernel
theorem dX6_kinOf_59 : decode cX6_kinOf 59 = .ok (.istore_n 2, 1) := by decide +kernel
theorem dX6_kinOf_60 : decode cX6_kinOf 60 = .ok (.iload_n 3, 1) := by decide +kernel
theorem dX6_kinOf_61 : decode cX6_kinOf 61 = .ok (.aload_n 0, 1) := by decide +kernel
theorem dX6_kinOf_62 : decode cX6_kinOf 62 = .ok (.getfield 11, 3) := by decide +kernel
theorem dX6_kinOf_65 : decode cX6_kinOf 65 = .ok (.iload 5, 2) := by decide +kernel
theorem dX6_kinOf_67 : decode cX6_kinOf 67 = .ok (.iaload, 1) := by decide +kernel
theorem dX6_kinOf_68 : decode cX6_kinOf 68 = .ok (.invokestatic 67, 3) := by decide +kernel
theorem dX6_kinOf_71 : decode cX6_kinOf 71 = .ok (.istore_n 3, 1) := by decide +kernel
theorem dX6_kinOf_72 : decode cX6_kinOf 72 = .ok (.iinc 5 1, 3) := by decide +kernel
theorem dX6_kinOf_75 : decode cX6_kinOf 75 = .ok (.goto (-49), 3) := by decide +kernel
theorem dX6_kinOf_78 : decode cX6_kinOf 78 = .ok (.iinc 4 1, 3) := by decide +kernel
theorem dX6_kinOf_81 : decode cX6_kinOf 81 = .ok (.goto (-67), 3) := by decide +kernel
theorem dX6_kinOf_84 : decode cX6_kinOf 84 = .ok (.iload_n 2, 1) := by decide +kernel
theorem dX6_kinOf_85 : decode cX6_kinOf 85 = .ok (.ireturn, 1) := by decide +kernel
set_option maxRecDepth 20000 in
theorem ggX6_countKin_X8_commonMultiple : GoodIn wsX6_countKin wsX8_commonMultiple := goodIn_r _ [6, 7, 8, 5, 9] (by decide +kernel) (by decide +kernel)
set_option maxRecDepth 20000 in
theorem gX6_countKin_X8_commonMultiple_n67 : GoodIn wsX6_countKin (wsX8_commonMultiple) := ggX6_countKin_X8_commonMultiple
set_option maxRecDepth 20000 in
theorem ggX6_countKin_J7_fill_53178 : GoodIn wsX6_countKin wsJ7_fill_53178 := goodIn_r _ [13] (by decide +kernel) (by decide +kernel)
set_option maxRecDepth 20000 in
theorem gX6_countKin_J7_fill_53178 : GoodIn wsX6_countKin (va_wsS RX6 46 yJ7_fill_53178 wsJ7_fill_53178) := goodIn_app (goodIn_of _ (by decide +kernel)) ggX6_countKin_J7_fill_53178
set_option maxRecDepth 20000 in
theorem ggX6_countKin_X6_yesAt : GoodIn wsX6_countKin wsX6_yesAt := goodIn_r _ [18, 1, 19, 2, 20, 5, 21, 22, 23, 24, 25, 26, 27, 28] (by decide +kernel) (by decide +kernel)
set_option maxRecDepth 20000 in
theorem gX6_countKin_X6_yesAt : GoodIn wsX6_countKin (wsV RX6 71 RX6 yX6_yesAt wsX6_yesAt) := goodIn_app (goodIn_of _ (by decide +kernel)) ggX6_countKin_X6_yesAt
theorem dX6_countKin_0 : decode cX6_countKin 0 = .ok (.iconst 1, 1) := by decide +kernel
theorem dX6_countKin_1 : decode cX6_countKin 1 = .ok (.istore_n 2, 1) := by decide +kernel
theorem dX6_countKin_2 : decode cX6_countKin 2 = .ok (.iconst 0, 1) := by decide +kernel
theorem dX6_countKin_3 : decode cX6_countKin 3 = .ok (.istore_n 3, 1) := by decide +kernel
theorem dX6_countKin_4 : decode cX6_countKin 4 = .ok (.iload_n 3, 1) := by decide +kernel
theorem dX6_countKin_5 : decode cX6_countKin 5 = .ok (.aload_n 0, 1) := by decide +kernel
theorem dX6_countKin_6 : decode cX6_countKin 6 = .ok (.getfield 34, 3) := by decide +kernel
theorem dX6_countKin_9 : decode cX6_countKin 9 = .ok (.if_icmp .ge 29, 3) := by decide +kernel
theorem dX6_countKin_12 : decode cX6_countKin 12 = .ok (.iload_n 1, 1) := by decide +kernel
theorem dX6_countKin_13 : decode cX6_countKin 13 = .ok (.iload_n 3, 1) := by decide +kernel
theorem dX6_countKin_14 : decode cX6_countKin 14 = .ok (.ishr, 1) := by decide +kernel
theorem dX6_countKin_15 : decode cX6_countKin 15 = .ok (.iconst 1, 1) := by decide +kernel
theorem dX6_countKin_16 : decode cX6_countKin 16 = .ok (.iand, 1) := by decide +kernel
theorem dX6_countKin_17 : decode cX6_countKin 17 = .ok (.iconst 1, 1) := by decide +kernel
theorem dX6_countKin_18 : decode cX6_countKin 18 = .ok (.if_icmp .ne 14, 3) := by decide +kernel
theorem dX6_countKin_21 : decode cX6_countKin 21 = .ok (.iload_n 2, 1) := by decide +kernel
theorem dX6_countKin_22 : decode cX6_countKin 22 = .ok (.aload_n 0, 1) := by decide +kernel
theorem dX6_countKin_23 : decode cX6_countKin 23 = .ok (.getfield 11, 3) := by decide +kernel
theorem dX6_countKin_26 : decode cX6_countKin 26 = .ok (.iload_n 3, 1) := by decide +kernel
theorem dX6_countKin_27 : decode cX6_countKin 27 = .ok (.iaload, 1) := by decide +kernel
theorem dX6_countKin_28 : decode cX6_countKin 28 = .ok (.invokestatic 67, 3) := by decide +kernel
theorem dX6_countKin_31 : decode cX6_countKin 31 = .ok (.istore_n 2, 1) := by decide +kernel
theorem dX6_countKin_32 : decode cX6_countKin 32 = .ok (.iinc 3 1, 3) := by decide +kernel
theorem dX6_countKin_35 : decode cX6_countKin 35 = .ok (.goto (-31), 3) := by decide +kernel
theorem dX6_countKin_38 : decode cX6_countKin 38 = .ok (.aload_n 0, 1) := by decide +kernel
theorem dX6_countKin_39 : decode cX6_countKin 39 = .ok (.getfield 21, 3) := by decide +kernel
theorem dX6_countKin_42 : decode cX6_countKin 42 = .ok (.iconst 0, 1) := by decide +kernel
theorem dX6_countKin_43 : decode cX6_countKin 43 = .ok (.invokestatic 46, 3) := by decide +kernel
theorem dX6_countKin_46 : decode cX6_countKin 46 = .ok (.iconst 0, 1) := by decide +kernel
theorem dX6_countKin_47 : decode cX6_countKin 47 = .ok (.istore_n 3, 1) := by decide +kernel
theorem dX6_countKin_48 : decode cX6_countKin 48 = .ok (.iload_n 3, 1) := by decide +kernel
theorem dX6_countKin_49 : decode cX6_countKin 49 = .ok (.iload_n 2, 1) := by decide +kernel
theorem dX6_countKin_50 : decode cX6_countKin 50 = .ok (.if_icmp .ge 24, 3) := by decide +kernel
theorem dX6_countKin_53 : decode cX6_countKin 53 = .ok (.aload_n 0, 1) := by decide +kernel
theorem dX6_countKin_54 : decode cX6_countKin 54 = .ok (.getfield 21, 3) := by decide +kernel
theorem dX6_countKin_57 : decode cX6_countKin 57 = .ok (.aload_n 0, 1) := by decide +kernel
theorem dX6_countKin_58 : decode cX6_countKin 58 = .ok (.iload_n 3, 1) := by decide +kernel
theorem dX6_countKin_59 : decode cX6_countKin 59 = .ok (.iload_n 1, 1) := by decide +kernel
theorem dX6_countKin_60 : decode cX6_countKin 60 = .ok (.invokevirtual 71, 3) := by decide +kernel
theorem dX6_countKin_63 : decode cX6_countKin 63 = .ok (.dup2, 1) := by decide +kernel
theorem dX6_countKin_64 : decode cX6_countKin 64 = .ok (.iaload, 1) := by decide +kernel
theorem dX6_countKin_65 : decode cX6_countKin 65 = .ok (.iconst 1, 1) := by decide +kernel
theorem dX6_countKin_66 : decode cX6_countKin 66 = .ok (.iadd, 1) := by decide +kernel
theorem dX6_countKin_67 : decode cX6_countKin 67 = .ok (.iastore, 1) := by decide +kernel
theorem dX6_countKin_68 : decode cX6_countKin 68 = .ok (.iinc 3 1, 3) := by decide +kernel
theorem dX6_countKin_71 : decode cX6_countKin 71 = .ok (.goto (-23), 3) := by decide +kernel
theorem dX6_countKin_74 : decode cX6_countKin 74 = .ok (.return_, 1) := by decide +kernel
set_option maxRecDepth 20000 in
theorem ggX6_yesAt_X8_rest : GoodIn wsX6_yesAt wsX8_rest := goodIn_r _ [6] (by decide +kernel) (by decide +kernel)
set_option maxRecDepth 20000 in
theorem gX6_yesAt_X8_rest_n74 : GoodIn wsX6_yesAt (wsX8_rest) := ggX6_yesAt_X8_rest
theorem dX6_yesAt_0 : decode cX6_yesAt 0 = .ok (.iconst 0, 1) := by decide +kernel
theorem dX6_yesAt_1 : decode cX6_yesAt 1 = .ok (.istore_n 3, 1) := by decide +kernel
theorem dX6_yesAt_2 : decode cX6_yesAt 2 = .ok (.iconst 0, 1) := by decide +kernel
theorem dX6_yesAt_3 : decode cX6_yesAt 3 = .ok (.istore 4, 2) := by decide +kernel
theorem dX6_yesAt_5 : decode cX6_yesAt 5 = .ok (.iload 4, 2) := by decide +kernel
theorem dX6_yesAt_7 : decode cX6_yesAt 7 = .ok (.aload_n 0, 1) := by decide +kernel
theorem dX6_yesAt_8 : decode cX6_yesAt 8 = .ok (.getfield 34, 3) := by decide +kernel
theorem dX6_yesAt_11 : decode cX6_yesAt 11 = .ok (.if_icmp .ge 46, 3) := by decide +kernel
theorem dX6_yesAt_14 : decode cX6_yesAt 14 = .ok (.iload_n 2, 1) := by decide +kernel
theorem dX6_yesAt_15 : decode cX6_yesAt 15 = .ok (.iload 4, 2) := by decide +kernel
theorem dX6_yesAt_17 : decode cX6_yesAt 17 = .ok (.ishr, 1) := by decide +kernel
theorem dX6_yesAt_18 : decode cX6_yesAt 18 = .ok (.iconst 1, 1) := by decide +kernel
theorem dX6_yesAt_19 : decode cX6_yesAt 19 = .ok (.iand, 1) := by decide +kernel
theorem dX6_yesAt_20 : decode cX6_yesAt 20 = .ok (.iconst 1, 1) := by decide +kernel
theorem dX6_yesAt_21 : decode cX6_yesAt 21 = .ok (.if_icmp .ne 30, 3) := by decide +kernel
theorem dX6_yesAt_24 : decode cX6_yesAt 24 = .ok (.iload_n 3, 1) := by decide +kernel
theorem dX6_yesAt_25 : decode cX6_yesAt 25 = .ok (.aload_n 0, 1) := by decide +kernel
theorem dX6_yesAt_26 : decode cX6_yesAt 26 = .ok (.getfield 15, 3) := by decide +kernel
theorem dX6_yesAt_29 : decode cX6_yesAt 29 = .ok (.iload 4, 2) := by decide +kernel
theorem dX6_yesAt_31 : decode cX6_yesAt 31 = .ok (.iaload, 1) := by decide +kernel
theorem dX6_yesAt_32 : decode cX6_yesAt 32 = .ok (.iload_n 1, 1) := by decide +kernel
theorem dX6_yesAt_33 : decode cX6_yesAt 33 = .ok (.aload_n 0, 1) := by decide +kernel
theorem dX6_yesAt_34 : decode cX6_yesAt 34 = .ok (.getfield 11, 3) := by decide +kernel
theorem dX6_yesAt_37 : decode cX6_yesAt 37 = .ok (.iload 4, 2) := by decide +kernel
theorem dX6_yesAt_39 : decode cX6_yesAt 39 = .ok (.iaload, 1) := by decide +kernel
theorem dX6_yesAt_40 : decode cX6_yesAt 40 = .ok (.invokestatic 74, 3) := by decide +kernel
theorem dX6_yesAt_43 : decode cX6_yesAt 43 = .ok (.ishr, 1) := by decide +kernel
theorem dX6_yesAt_44 : decode cX6_yesAt 44 = .ok (.iconst 1, 1) := by decide +kernel
theorem dX6_yesAt_45 : decode cX6_yesAt 45 = .ok (.iand, 1) := by decide +kernel
theorem dX6_yesAt_46 : decode cX6_yesAt 46 = .ok (.iload 4, 2) := by decide +kernel
theorem dX6_yesAt_48 : decode cX6_yesAt 48 = .ok (.ishl, 1) := by decide +kernel
theorem dX6_yesAt_49 : decode cX6_yesAt 49 = .ok (.ior, 1) := by decide +kernel
theorem dX6_yesAt_50 : decode cX6_yesAt 50 = .ok (.istore_n 3, 1) := by decide +kernel
theorem dX6_yesAt_51 : decode cX6_yesAt 51 = .ok (.iinc 4 1, 3) := by decide +kernel
theorem dX6_yesAt_54 : decode cX6_yesAt 54 = .ok (.goto (-49), 3) := by decide +kernel
theorem dX6_yesAt_57 : decode cX6_yesAt 57 = .ok (.iload_n 3, 1) := by decide +kernel
theorem dX6_yesAt_58 : decode cX6_yesAt 58 = .ok (.ireturn, 1) := by decide +kernel
set_option maxRecDepth 20000 in
theorem ggX6_mix_J7_fill_53178 : GoodIn wsX6_mix wsJ7_fill_53178 := goodIn_r _ [11] (by decide +kernel) (by decide +kernel)
set_option maxRecDepth 20000 in
theorem gX6_mix_J7_fill_53178 : GoodIn wsX6_mix (va_wsS RX6 46 yJ7_fill_53178 wsJ7_fill_53178) := goodIn_app (goodIn_of _ (by decide +kernel)) ggX6_mix_J7_fill_53178
theorem dX6_mix_0 : decode cX6_mix 0 = .ok (.aload_n 0, 1) := by decide +kernel
theorem dX6_mix_1 : decode cX6_mix 1 = .ok (.getfield 24, 3) := by decide +kernel
theorem dX6_mix_4 : decode cX6_mix 4 = .ok (.iconst 0, 1) := by decide +kernel
theorem dX6_mix_5 : decode cX6_mix 5 = .ok (.invokestatic 46, 3) := by decide +kernel
theorem dX6_mix_8 : decode cX6_mix 8 = .ok (.iconst 0, 1) := by decide +kernel
theorem dX6_mix_9 : decode cX6_mix 9 = .ok (.istore_n 1, 1) := by decide +kernel
theorem dX6_mix_10 : decode cX6_mix 10 = .ok (.iload_n 1, 1) := by decide +kernel
theorem dX6_mix_11 : decode cX6_mix 11 = .ok (.bipush 64, 2) := by decide +kernel
theorem dX6_mix_13 : decode cX6_mix 13 = .ok (.if_icmp .ge 56, 3) := by decide +kernel
theorem dX6_mix_16 : decode cX6_mix 16 = .ok (.iconst 0, 1) := by decide +kernel
theorem dX6_mix_17 : decode cX6_mix 17 = .ok (.istore_n 2, 1) := by decide +kernel
theorem dX6_mix_18 : decode cX6_mix 18 = .ok (.iload_n 2, 1) := by decide +kernel
theorem dX6_mix_19 : decode cX6_mix 19 = .ok (.bipush 64, 2) := by decide +kernel
theorem dX6_mix_21 : decode cX6_mix 21 = .ok (.if_icmp .ge 42, 3) := by decide +kernel
theorem dX6_mix_24 : decode cX6_mix 24 = .ok (.aload_n 0, 1) := by decide +kernel
theorem dX6_mix_25 : decode cX6_mix 25 = .ok (.getfield 18, 3) := by decide +kernel
theorem dX6_mix_28 : decode cX6_mix 28 = .ok (.iload_n 1, 1) := by decide +kernel
theorem dX6_mix_29 : decode cX6_mix 29 = .ok (.iaload, 1) := by decide +kernel
theorem dX6_mix_30 : decode cX6_mix 30 = .ok (.ifCond .eq 33, 3) := by decide +kernel
theorem dX6_mix_33 : decode cX6_mix 33 = .ok (.aload_n 0, 1) := by decide +kernel
theorem dX6_mix_34 : decode cX6_mix 34 = .ok (.getfield 24, 3) := by decide +kernel
theorem dX6_mix_37 : decode cX6_mix 37 = .ok (.iload_n 1, 1) := by decide +kernel
theorem dX6_mix_38 : decode cX6_mix 38 = .ok (.iload_n 2, 1) := by decide +kernel
theorem dX6_mix_39 : decode cX6_mix 39 = .ok (.ior, 1) := by decide +kernel
theorem dX6_mix_40 : decode cX6_mix 40 = .ok (.dup2, 1) := by decide +kernel
theorem dX6_mix_41 : decode cX6_mix 41 = .ok (.iaload, 1) := by decide +kernel
theorem dX6_mix_42 : decode cX6_mix 42 = .ok (.aload_n 0, 1) := by decide +kernel
theorem dX6_mix_43 : decode cX6_mix 43 = .ok (.getfield 18, 3) := by decide +kernel
theorem dX6_mix_46 : decode cX6_mix 46 = .ok (.iload_n 1, 1) := by decide +kernel
theorem dX6_mix_47 : decode cX6_mix 47 = .ok (.iaload, 1) := by decide +kernel
theorem dX6_mix_48 : decode cX6_mix 48 = .ok (.aload_n 0, 1) := by decide +kernel
theorem dX6_mix_49 : decode cX6_mix 49 = .ok (.getfield 21, 3) := by decide +kernel
theorem dX6_mix_52 : decode cX6_mix 52 = .ok (.iload_n 2, 1) := by decide +kernel
theorem dX6_mix_53 : decode cX6_mix 53 = .ok (.iaload, 1) := by decide +kernel
theorem dX6_mix_54 : decode cX6_mix 54 = .ok (.imul, 1) := by decide +kernel
theorem dX6_mix_55 : decode cX6_mix 55 = .ok (.iadd, 1) := by decide +kernel
theorem dX6_mix_56 : decode cX6_mix 56 = .ok (.iastore, 1) := by decide +kernel
theorem dX6_mix_57 : decode cX6_mix 57 = .ok (.iinc 2 1, 3) := by decide +kernel
theorem dX6_mix_60 : decode cX6_mix 60 = .ok (.goto (-42), 3) := by decide +kernel
theorem dX6_mix_63 : decode cX6_mix 63 = .ok (.iinc 1 1, 3) := by decide +kernel
theorem dX6_mix_66 : decode cX6_mix 66 = .ok (.goto (-56), 3) := by decide +kernel
theorem dX6_mix_69 : decode cX6_mix 69 = .ok (.aload_n 0, 1) := by decide +kernel
theorem dX6_mix_70 : decode cX6_mix 70 = .ok (.getfield 24, 3) := by decide +kernel
theorem dX6_mix_73 : decode cX6_mix 73 = .ok (.iconst 0, 1) := by decide +kernel
theorem dX6_mix_74 : decode cX6_mix 74 = .ok (.aload_n 0, 1) := by decide +kernel
theorem dX6_mix_75 : decode cX6_mix 75 = .ok (.getfield 18, 3) := by decide +kernel
theorem dX6_mix_78 : decode cX6_mix 78 = .ok (.iconst 0, 1) := by decide +kernel
theorem dX6_mix_79 : decode cX6_mix 79 = .ok (.bipush 64, 2) := by decide +kernel
theorem dX6_mix_81 : decode cX6_mix 81 = .ok (.invokestatic 38, 3) := by decide +kernel
theorem dX6_mix_84 : decode cX6_mix 84 = .ok (.return_, 1) := by decide +kernel
theorem dX6_fullOf_0 : decode cX6_fullOf 0 = .ok (.iconst 0, 1) := by decide +kernel
theorem dX6_fullOf_1 : decode cX6_fullOf 1 = .ok (.istore_n 3, 1) := by decide +kernel
theorem dX6_fullOf_2 : decode cX6_fullOf 2 = .ok (.iconst 1, 1) := by decide +kernel
theorem dX6_fullOf_3 : decode cX6_fullOf 3 = .ok (.aload_n 0, 1) := by decide +kernel
theorem dX6_fullOf_4 : decode cX6_fullOf 4 = .ok (.getfield 33, 3) := by decide +kernel
theorem dX6_fullOf_7 : decode cX6_fullOf 7 = .ok (.ishl, 1) := by decide +kernel
theorem dX6_fullOf_8 : decode cX6_fullOf 8 = .ok (.iconst 1, 1) := by decide +kernel
theorem dX6_fullOf_9 : decode cX6_fullOf 9 = .ok (.isub, 1) := by decide +kernel
theorem dX6_fullOf_10 : decode cX6_fullOf 10 = .ok (.istore 4, 2) := by decide +kernel
theorem dX6_fullOf_12 : decode cX6_fullOf 12 = .ok (.iconst 0, 1) := by decide +kernel
theorem dX6_fullOf_13 : decode cX6_fullOf 13 = .ok (.istore 5, 2) := by decide +kernel
theorem dX6_fullOf_15 : decode cX6_fullOf 15 = .ok (.iload 5, 2) := by decide +kernel
theorem dX6_fullOf_17 : decode cX6_fullOf 17 = .ok (.bipush 64, 2) := by decide +kernel
theorem dX6_fullOf_19 : decode cX6_fullOf 19 = .ok (.if_icmp .ge 52, 3) := by decide +kernel
theorem dX6_fullOf_22 : decode cX6_fullOf 22 = .ok (.iload_n 2, 1) := by decide +kernel
theorem dX6_fullOf_23 : decode cX6_fullOf 23 = .ok (.iload 5, 2) := by decide +kernel
theorem dX6_fullOf_25 : decode cX6_fullOf 25 = .ok (.iload 4, 2) := by decide +kernel
theorem dX6_fullOf_27 : decode cX6_fullOf 27 = .ok (.iand, 1) := by decide +kernel
theorem dX6_fullOf_28 : decode cX6_fullOf 28 = .ok (.iushr, 1) := by decide +kernel
theorem dX6_fullOf_29 : decode cX6_fullOf 29 = .ok (.iconst 1, 1) := by decide +kernel
theorem dX6_fullOf_30 : decode cX6_fullOf 30 = .ok (.iand, 1) := by decide +kernel
theorem dX6_fullOf_31 : decode cX6_fullOf 31 = .ok (.istore 6, 2) := by decide +kernel
theorem dX6_fullOf_33 : decode cX6_fullOf 33 = .ok (.iload_n 3, 1) := by decide +kernel
theorem dX6_fullOf_34 : decode cX6_fullOf 34 = .ok (.iload 6, 2) := by decide +kernel
theorem dX6_fullOf_36 : decode cX6_fullOf 36 = .ok (.iload 5, 2) := by decide +kernel
theorem dX6_fullOf_38 : decode cX6_fullOf 38 = .ok (.iload_n 1, 1) := by decide +kernel
theorem dX6_fullOf_39 : decode cX6_fullOf 39 = .ok (.ishr, 1) := by decide +kernel
theorem dX6_fullOf_40 : decode cX6_fullOf 40 = .ok (.iconst 1, 1) := by decide +kernel
theorem dX6_fullOf_41 : decode cX6_fullOf 41 = .ok (.iand, 1) := by decide +kernel
theorem dX6_fullOf_42 : decode cX6_fullOf 42 = .ok (.if_icmp .ne 13, 3) := by decide +kernel
theorem dX6_fullOf_45 : decode cX6_fullOf 45 = .ok (.aload_n 0, 1) := by decide +kernel
theorem dX6_fullOf_46 : decode cX6_fullOf 46 = .ok (.getfield 18, 3) := by decide +kernel
theorem dX6_fullOf_49 : decode cX6_fullOf 49 = .ok (.iload 5, 2) := by decide +kernel
theorem dX6_fullOf_51 : decode cX6_fullOf 51 = .ok (.iaload, 1) := by decide +kernel
theorem dX6_fullOf_52 : decode cX6_fullOf 52 = .ok (.goto 11, 3) := by decide +kernel
theorem dX6_fullOf_55 : decode cX6_fullOf 55 = .ok (.aload_n 0, 1) := by decide +kernel
theorem dX6_fullOf_56 : decode cX6_fullOf 56 = .ok (.getfield 18, 3) := by decide +kernel
theorem dX6_fullOf_59 : decode cX6_fullOf 59 = .ok (.iload 5, 2) := by decide +kernel
theorem dX6_fullOf_61 : decode cX6_fullOf 61 = .ok (.iaload, 1) := by decide +kernel
theorem dX6_fullOf_62 : decode cX6_fullOf 62 = .ok (.ineg, 1) := by decide +kernel
theorem dX6_fullOf_63 : decode cX6_fullOf 63 = .ok (.iadd, 1) := by decide +kernel
theorem dX6_fullOf_64 : decode cX6_fullOf 64 = .ok (.istore_n 3, 1) := by decide +kernel
theorem dX6_fullOf_65 : decode cX6_fullOf 65 = .ok (.iinc 5 1, 3) := by decide +kernel
theorem dX6_fullOf_68 : decode cX6_fullOf 68 = .ok (.goto (-53), 3) := by decide +kernel
theorem dX6_fullOf_71 : decode cX6_fullOf 71 = .ok (.iload_n 3, 1) := by decide +kernel
theorem dX6_fullOf_72 : decode cX6_fullOf 72 = .ok (.ireturn, 1) := by decide +kernel
set_option maxRecDepth 20000 in
theorem ggX6_leastFull_X6_fullOf : GoodIn wsX6_leastFull wsX6_fullOf := goodIn_r _ [10, 1, 11, 12, 13, 14, 15, 16, 17, 18] (by decide +kernel) (by decide +kernel)
set_option maxRecDepth 20000 in
theorem gX6_leastFull_X6_fullOf : GoodIn wsX6_leastFull (wsV RX6 77 RX6 yX6_fullOf wsX6_fullOf) := goodIn_app (goodIn_of _ (by decide +kernel)) ggX6_leastFull_X6_fullOf
theorem dX6_leastFull_0 : decode cX6_leastFull 0 = .ok (.aload_n 0, 1) := by decide +kernel
theorem dX6_leastFull_1 : decode cX6_leastFull 1 = .ok (.iconst 0, 1) := by decide +kernel
theorem dX6_leastFull_2 : decode cX6_leastFull 2 = .ok (.iload_n 1, 1) := by decide +kernel
theorem dX6_leastFull_3 : decode cX6_leastFull 3 = .ok (.invokevirtual 77, 3) := by decide +kernel
theorem dX6_leastFull_6 : decode cX6_leastFull 6 = .ok (.istore_n 2, 1) := by decide +kernel
theorem dX6_leastFull_7 : decode cX6_leastFull 7 = .ok (.iconst 1, 1) := by decide +kernel
theorem dX6_leastFull_8 : decode cX6_leastFull 8 = .ok (.istore_n 3, 1) := by decide +kernel
theorem dX6_leastFull_9 : decode cX6_leastFull 9 = .ok (.iload_n 3, 1) := by decide +kernel
theorem dX6_leastFull_10 : decode cX6_leastFull 10 = .ok (.aload_n 0, 1) := by decide +kernel
theorem dX6_leastFull_11 : decode cX6_leastFull 11 = .ok (.getfield 33, 3) := by decide +kernel
theorem dX6_leastFull_14 : decode cX6_leastFull 14 = .ok (.if_icmp .ge 20, 3) := by decide +kernel
theorem dX6_leastFull_17 : decode cX6_leastFull 17 = .ok (.iload_n 2, 1) := by decide +kernel
theorem dX6_leastFull_18 : decode cX6_leastFull 18 = .ok (.aload_n 0, 1) := by decide +kernel
theorem dX6_leastFull_19 : decode cX6_leastFull 19 = .ok (.iload_n 3, 1) := by decide +kernel
theorem dX6_leastFull_20 : decode cX6_leastFull 20 = .ok (.iload_n 1, 1) := by decide +kernel
theorem dX6_leastFull_21 : decode cX6_leastFull 21 = .ok (.invokevirtual 77, 3) := by decide +kernel
theorem dX6_leastFull_24 : decode cX6_leastFull 24 = .ok (.invokestatic 80, 3) := by decide +kernel
theorem dX6_leastFull_27 : decode cX6_leastFull 27 = .ok (.istore_n 2, 1) := by decide +kernel
theorem dX6_leastFull_28 : decode cX6_leastFull 28 = .ok (.iinc 3 1, 3) := by decide +kernel
theorem dX6_leastFull_31 : decode cX6_leastFull 31 = .ok (.goto (-22), 3) := by decide +kernel
theorem dX6_leastFull_34 : decode cX6_leastFull 34 = .ok (.iload_n 2, 1) := by decide +kernel
theorem dX6_leastFull_35 : decode cX6_leastFull 35 = .ok (.ireturn, 1) := by decide +kernel
set_option maxRecDepth 20000 in
theorem ggX7_init_X1_init : GoodIn wsX7_init wsX1_init := goodIn_r _ [15, 16, 2, 3, 4, 17, 18, 19, 20, 27, 28, 29, 30, 31] (by decide +kernel) (by decide +kernel)
set_option maxRecDepth 20000 in
theorem gX7_init_X1_init : GoodIn wsX7_init (wsX1_init) := ggX7_init_X1_init
theorem dX7_init_0 : decode cX7_init 0 = .ok (.aload_n 0, 1) := by decide +kernel
theorem dX7_init_1 : decode cX7_init 1 = .ok (.invokespecial 3, 3) := by decide +kernel
theorem dX7_init_4 : decode cX7_init 4 = .ok (.aload_n 0, 1) := by decide +kernel
theorem dX7_init_5 : decode cX7_init 5 = .ok (.iconst 5, 1) := by decide +kernel
theorem dX7_init_6 : decode cX7_init 6 = .ok (.newarray .int, 2) := by decide +kernel
theorem dX7_init_8 : decode cX7_init 8 = .ok (.putfield 9, 3) := by decide +kernel
theorem dX7_init_11 : decode cX7_init 11 = .ok (.aload_n 0, 1) := by decide +kernel
theorem dX7_init_12 : decode cX7_init 12 = .ok (.iconst 5, 1) := by decide +kernel
theorem dX7_init_13 : decode cX7_init 13 = .ok (.newarray .int, 2) := by decide +kernel
theorem dX7_init_15 : decode cX7_init 15 = .ok (.putfield 15, 3) := by decide +kernel
theorem dX7_init_18 : decode cX7_init 18 = .ok (.aload_n 0, 1) := by decide +kernel
theorem dX7_init_19 : decode cX7_init 19 = .ok (.iconst 5, 1) := by decide +kernel
theorem dX7_init_20 : decode cX7_init 20 = .ok (.newarray .int, 2) := by decide +kernel
theorem dX7_init_22 : decode cX7_init 22 = .ok (.putfield 18, 3) := by decide +kernel
theorem dX7_init_25 : decode cX7_init 25 = .ok (.aload_n 0, 1) := by decide +kernel
theorem dX7_init_26 : decode cX7_init 26 = .ok (.iconst 2, 1) := by decide +kernel
theorem dX7_init_27 : decode cX7_init 27 = .ok (.anewarray 21, 3) := by decide +kernel
theorem dX7_init_30 : decode cX7_init 30 = .ok (.putfield 23, 3) := by decide +kernel
theorem dX7_init_33 : decode cX7_init 33 = .ok (.aload_n 0, 1) := by decide +kernel
theorem dX7_init_34 : decode cX7_init 34 = .ok (.sipush 1000, 3) := by decide +kernel
theorem dX7_init_37 : decode cX7_init 37 = .ok (.putfield 27, 3) := by decide +kernel
theorem dX7_init_40 : decode cX7_init 40 = .ok (.aload_n 0, 1) := by decide +kernel
theorem dX7_init_41 : decode cX7_init 41 = .ok (.getfield 23, 3) := by decide +kernel
theorem dX7_init_44 : decode cX7_init 44 = .ok (.iconst 0, 1) := by decide +kernel
theorem dX7_init_45 : decode cX7_init 45 = .ok (.new 21, 3) := by decide +kernel
theorem dX7_init_48 : decode cX7_init 48 = .ok (.dup, 1) := by decide +kernel
theorem dX7_init_49 : decode cX7_init 49 = .ok (.invokespecial 31, 3) := by decide +kernel
theorem dX7_init_52 : decode cX7_init 52 = .ok (.aastore, 1) := by decide +kernel
theorem dX7_init_53 : decode cX7_init 53 = .ok (.aload_n 0, 1) := by decide +kernel
theorem dX7_init_54 : decode cX7_init 54 = .ok (.getfield 23, 3) := by decide +kernel
theorem dX7_init_57 : decode cX7_init 57 = .ok (.iconst 1, 1) := by decide +kernel
theorem dX7_init_58 : decode cX7_init 58 = .ok (.new 21, 3) := by decide +kernel
theorem dX7_init_61 : decode cX7_init 61 = .ok (.dup, 1) := by decide +kernel
theorem dX7_init_62 : decode cX7_init 62 = .ok (.invokespecial 31, 3) := by decide +kernel
theorem dX7_init_65 : decode cX7_init 65 = .ok (.aastore, 1) := by decide +kernel
theorem dX7_init_66 : decode cX7_init 66 = .ok (.return_, 1) := by decide +kernel
set_option maxRecDepth 20000 in
theorem ggX7_forget_X1_forget : GoodIn wsX7_forget wsX1_forget := goodIn_r _ [8, 9, 10, 11, 12, 13, 14, 21, 22, 23, 24, 25] (by decide +kernel) (by decide +kernel)
set_option maxRecDepth 20000 in
theorem gX7_forget_X1_forget : GoodIn wsX7_forget (wsV RX7 35 RX1 yX1_forget wsX1_forget) := goodIn_app (goodIn_of _ (by decide +kernel)) ggX7_forget_X1_forget
theorem dX7_forget_0 : decode cX7_forget 0 = .ok (.aload_n 0, 1) := by decide +kernel
theorem dX7_forget_1 : decode cX7_forget 1 = .ok (.iconst 0, 1) := by decide +kernel
theorem dX7_forget_2 : decode cX7_forget 2 = .ok (.putfield 32, 3) := by decide +kernel
theorem dX7_forget_5 : decode cX7_forget 5 = .ok (.aload_n 0, 1) := by decide +kernel
theorem dX7_forget_6 : decode cX7_forget 6 = .ok (.sipush 1000, 3) := by decide +kernel
theorem dX7_forget_9 : decode cX7_forget 9 = .ok (.putfield 27, 3) := by decide +kernel
theorem dX7_forget_12 : decode cX7_forget 12 = .ok (.aload_n 0, 1) := by decide +kernel
theorem dX7_forget_13 : decode cX7_forget 13 = .ok (.getfield 23, 3) := by decide +kernel
theorem dX7_forget_16 : decode cX7_forget 16 = .ok (.iconst 0, 1) := by decide +kernel
theorem dX7_forget_17 : decode cX7_forget 17 = .ok (.aaload, 1) := by decide +kernel
theorem dX7_forget_18 : decode cX7_forget 18 = .ok (.invokevirtual 35, 3) := by decide +kernel
theorem dX7_forget_21 : decode cX7_forget 21 = .ok (.aload_n 0, 1) := by decide +kernel
theorem dX7_forget_22 : decode cX7_forget 22 = .ok (.getfield 23, 3) := by decide +kernel
theorem dX7_forget_25 : decode cX7_forget 25 = .ok (.iconst 1, 1) := by decide +kernel
theorem dX7_forget_26 : decode cX7_forget 26 = .ok (.aaload, 1) := by decide +kernel
theorem dX7_forget_27 : decode cX7_forget 27 = .ok (.invokevirtual 35, 3) := by decide +kernel
theorem dX7_forget_30 : decode cX7_forget 30 = .ok (.return_, 1) := by decide +kernel
set_option maxRecDepth 20000 in
theorem ggX7_copyFrom_X1_copyFrom : GoodIn wsX7_copyFrom wsX1_copyFrom := goodIn_r _ [15, 16, 17, 3, 4, 5, 18, 19, 20, 21, 28, 29, 30, 31, 32] (by decide +kernel) (by decide +kernel)
set_option maxRecDepth 20000 in
theorem gX7_copyFrom_X1_copyFrom : GoodIn wsX7_copyFrom (wsV RX7 44 RX1 yX1_copyFrom wsX1_copyFrom) := goodIn_app (goodIn_of _ (by decide +kernel)) ggX7_copyFrom_X1_copyFrom
theorem dX7_copyFrom_0 : decode cX7_copyFrom 0 = .ok (.aload_n 1, 1) := by decide +kernel
theorem dX7_copyFrom_1 : decode cX7_copyFrom 1 = .ok (.getfield 9, 3) := by decide +kernel
theorem dX7_copyFrom_4 : decode cX7_copyFrom 4 = .ok (.iconst 0, 1) := by decide +kernel
theorem dX7_copyFrom_5 : decode cX7_copyFrom 5 = .ok (.aload_n 0, 1) := by decide +kernel
theorem dX7_copyFrom_6 : decode cX7_copyFrom 6 = .ok (.getfield 9, 3) := by decide +kernel
theorem dX7_copyFrom_9 : decode cX7_copyFrom 9 = .ok (.iconst 0, 1) := by decide +kernel
theorem dX7_copyFrom_10 : decode cX7_copyFrom 10 = .ok (.iconst 5, 1) := by decide +kernel
theorem dX7_copyFrom_11 : decode cX7_copyFrom 11 = .ok (.invokestatic 38, 3) := by decide +kernel
theorem dX7_copyFrom_14 : decode cX7_copyFrom 14 = .ok (.aload_n 1, 1) := by decide +kernel
theorem dX7_copyFrom_15 : decode cX7_copyFrom 15 = .ok (.getfield 15, 3) := by decide +kernel
theorem dX7_copyFrom_18 : decode cX7_copyFrom 18 = .ok (.iconst 0, 1) := by decide +kernel
theorem dX7_copyFrom_19 : decode cX7_copyFrom 19 = .ok (.aload_n 0, 1) := by decide +kernel
theorem dX7_copyFrom_20 : decode cX7_copyFrom 20 = .ok (.getfield 15, 3) := by decide +kernel
theorem dX7_copyFrom_23 : decode cX7_copyFrom 23 = .ok (.iconst 0, 1) := by decide +kernel
theorem dX7_copyFrom_24 : decode cX7_copyFrom 24 = .ok (.iconst 5, 1) := by decide +kernel
theorem dX7_copyFrom_25 : decode cX7_copyFrom 25 = .ok (.invokestatic 38, 3) := by decide +kernel
theorem dX7_copyFrom_28 : decode cX7_copyFrom 28 = .ok (.aload_n 1, 1) := by decide +kernel
theorem dX7_copyFrom_29 : decode cX7_copyFrom 29 = .ok (.getfield 18, 3) := by decide +kernel
theorem dX7_copyFrom_32 : decode cX7_copyFrom 32 = .ok (.iconst 0, 1) := by decide +kernel
theorem dX7_copyFrom_33 : decode cX7_copyFrom 33 = .ok (.aload_n 0, 1) := by decide +kernel
theorem dX7_copyFrom_34 : decode cX7_copyFrom 34 = .ok (.getfield 18, 3) := by decide +kernel
theorem dX7_copyFrom_37 : decode cX7_copyFrom 37 = .ok (.iconst 0, 1) := by decide +kernel
theorem dX7_copyFrom_38 : decode cX7_copyFrom 38 = .ok (.iconst 5, 1) := by decide +kernel
theorem dX7_copyFrom_39 : decode cX7_copyFrom 39 = .ok (.invokestatic 38, 3) := by decide +kernel
theorem dX7_copyFrom_42 : decode cX7_copyFrom 42 = .ok (.aload_n 0, 1) := by decide +kernel
theorem dX7_copyFrom_43 : decode cX7_copyFrom 43 = .ok (.getfield 23, 3) := by decide +kernel
theorem dX7_copyFrom_46 : decode cX7_copyFrom 46 = .ok (.iconst 0, 1) := by decide +kernel
theorem dX7_copyFrom_47 : decode cX7_copyFrom 47 = .ok (.aaload, 1) := by decide +kernel
theorem dX7_copyFrom_48 : decode cX7_copyFrom 48 = .ok (.aload_n 1, 1) := by decide +kernel
theorem dX7_copyFrom_49 : decode cX7_copyFrom 49 = .ok (.getfield 23, 3) := by decide +kernel
theorem dX7_copyFrom_52 : decode cX7_copyFrom 52 = .ok (.iconst 0, 1) := by decide +kernel
theorem dX7_copyFrom_53 : decode cX7_copyFrom 53 = .ok (.aaload, 1) := by decide +kernel
theorem dX7_copyFrom_54 : decode cX7_copyFrom 54 = .ok (.invokevirtual 44, 3) := by decide +kernel
theorem dX7_copyFrom_57 : decode cX7_copyFrom 57 = .ok (.aload_n 0, 1) := by decide +kernel
theorem dX7_copyFrom_58 : decode cX7_copyFrom 58 = .ok (.getfield 23, 3) := by decide +kernel
theorem dX7_copyFrom_61 : decode cX7_copyFrom 61 = .ok (.iconst 1, 1) := by decide +kernel
theorem dX7_copyFrom_62 : decode cX7_copyFrom 62 = .ok (.aaload, 1) := by decide +kernel
theorem dX7_copyFrom_63 : decode cX7_copyFrom 63 = .ok (.aload_n 1, 1) := by decide +kernel
theorem dX7_copyFrom_64 : decode cX7_copyFrom 64 = .ok (.getfield 23, 3) := by decide +kernel
theorem dX7_copyFrom_67 : decode cX7_copyFrom 67 = .ok (.iconst 1, 1) := by decide +kernel
theorem dX7_copyFrom_68 : decode cX7_copyFrom 68 = .ok (.aaload, 1) := by decide +kernel
theorem dX7_copyFrom_69 : decode cX7_copyFrom 69 = .ok (.invokevirtual 44, 3) := by decide +kernel
theorem dX7_copyFrom_72 : decode cX7_copyFrom 72 = .ok (.aload_n 0, 1) := by decide +kernel
theorem dX7_copyFrom_73 : decode cX7_copyFrom 73 = .ok (.aload_n 1, 1) := by decide +kernel
theorem dX7_copyFrom_74 : decode cX7_copyFrom 74 = .ok (.getfield 32, 3) := by decide +kernel
theorem dX7_copyFrom_77 : decode cX7_copyFrom 77 = .ok (.putfield 32, 3) := by decide +kernel
theorem dX7_copyFrom_80 : decode cX7_copyFrom 80 = .ok (.aload_n 0, 1) := by decide +kernel
theorem dX7_copyFrom_81 : decode cX7_copyFrom 81 = .ok (.aload_n 1, 1) := by decide +kernel
theorem dX7_copyFrom_82 : decode cX7_copyFrom 82 = .ok (.getfield 27, 3) := by decide +kernel
theorem dX7_copyFrom_85 : decode cX7_copyFrom 85 = .ok (.putfield 27, 3) := by decide +kernel
theorem dX7_copyFrom_88 : decode cX7_copyFrom 88 = .ok (.return_, 1) := by decide +kernel
theorem dX7_addPart_0 : decode cX7_addPart 0 = .ok (.aload_n 0, 1) := by decide +kernel
theorem dX7_addPart_1 : decode cX7_addPart 1 = .ok (.getfield 32, 3) := by decide +kernel
theorem dX7_addPart_4 : decode cX7_addPart 4 = .ok (.iconst 5, 1) := by decide +kernel
theorem dX7_addPart_5 : decode cX7_addPart 5 = .ok (.if_icmp .ge 43, 3) := by decide +kernel
theorem dX7_addPart_8 : decode cX7_addPart 8 = .ok (.aload_n 0, 1) := by decide +kernel
theorem dX7_addPart_9 : decode cX7_addPart 9 = .ok (.getfield 15, 3) := by decide +kernel
theorem dX7_addPart_12 : decode cX7_addPart 12 = .ok (.aload_n 0, 1) := by decide +kernel
theorem dX7_addPart_13 : decode cX7_addPart 13 = .ok (.getfield 32, 3) := by decide +kernel
theorem dX7_addPart_16 : decode cX7_addPart 16 = .ok (.iload_n 1, 1) := by decide +kernel
theorem dX7_addPart_17 : decode cX7_addPart 17 = .ok (.iastore, 1) := by decide +kernel
theorem dX7_addPart_18 : decode cX7_addPart 18 = .ok (.aload_n 0, 1) := by decide +kernel
theorem dX7_addPart_19 : decode cX7_addPart 19 = .ok (.getfield 9, 3) := by decide +kernel
theorem dX7_addPart_22 : decode cX7_addPart 22 = .ok (.aload_n 0, 1) := by decide +kernel
theorem dX7_addPart_23 : decode cX7_addPart 23 = .ok (.getfield 32, 3) := by decide +kernel
theorem dX7_addPart_26 : decode cX7_addPart 26 = .ok (.iload_n 2, 1) := by decide +kernel
theorem dX7_addPart_27 : decode cX7_addPart 27 = .ok (.iastore, 1) := by decide +kernel
theorem dX7_addPart_28 : decode cX7_addPart 28 = .ok (.aload_n 0, 1) := by decide +kernel
theorem dX7_addPart_29 : decode cX7_addPart 29 = .ok (.getfield 18, 3) := by decide +kernel
theorem dX7_addPart_32 : decode cX7_addPart 32 = .ok (.aload_n 0, 1) := by decide +kernel
theorem dX7_addPart_33 : decode cX7_addPart 33 = .ok (.getfield 32, 3) := by decide +kernel
theorem dX7_addPart_36 : decode cX7_addPart 36 = .ok (.iload_n 3, 1) := by decide +kernel
theorem dX7_addPart_37 : decode cX7_addPart 37 = .ok (.iastore, 1) := by decide +kernel
theorem dX7_addPart_38 : decode cX7_addPart 38 = .ok (.aload_n 0, 1) := by decide +kernel
theorem dX7_addPart_39 : decode cX7_addPart 39 = .ok (.dup, 1) := by decide +kernel
theorem dX7_addPart_40 : decode cX7_addPart 40 = .ok (.getfield 32, 3) := by decide +kernel
theorem dX7_addPart_43 : decode cX7_addPart 43 = .ok (.iconst 1, 1) := by decide +kernel
theorem dX7_addPart_44 : decode cX7_addPart 44 = .ok (.iadd, 1) := by decide +kernel
theorem dX7_addPart_45 : decode cX7_addPart 45 = .ok (.putfield 32, 3) := by decide +kernel
theorem dX7_addPart_48 : decode cX7_addPart 48 = .ok (.return_, 1) := by decide +kernel
theorem dX7_hasPart_0 : decode cX7_hasPart 0 = .ok (.iload_n 1, 1) := by decide +kernel
theorem dX7_hasPart_1 : decode cX7_hasPart 1 = .ok (.ifCond .lt 15, 3) := by decide +kernel
theorem dX7_hasPart_4 : decode cX7_hasPart 4 = .ok (.iload_n 1, 1) := by decide +kernel
theorem dX7_hasPart_5 : decode cX7_hasPart 5 = .ok (.aload_n 0, 1) := by decide +kernel
theorem dX7_hasPart_6 : decode cX7_hasPart 6 = .ok (.getfield 32, 3) := by decide +kernel
theorem dX7_hasPart_9 : decode cX7_hasPart 9 = .ok (.if_icmp .ge 7, 3) := by decide +kernel
theorem dX7_hasPart_12 : decode cX7_hasPart 12 = .ok (.iconst 1, 1) := by decide +kernel
theorem dX7_hasPart_13 : decode cX7_hasPart 13 = .ok (.goto 4, 3) := by decide +kernel
theorem dX7_hasPart_16 : decode cX7_hasPart 16 = .ok (.iconst 0, 1) := by decide +kernel
theorem dX7_hasPart_17 : decode cX7_hasPart 17 = .ok (.ireturn, 1) := by decide +kernel
theorem dX7_hasPlace_0 : decode cX7_hasPlace 0 = .ok (.iload_n 2, 1) := by decide +kernel
theorem dX7_hasPlace_1 : decode cX7_hasPlace 1 = .ok (.ifCond .lt 17, 3) := by decide +kernel
theorem dX7_hasPlace_4 : decode cX7_hasPlace 4 = .ok (.iload_n 2, 1) := by decide +kernel
theorem dX7_hasPlace_5 : decode cX7_hasPlace 5 = .ok (.aload_n 0, 1) := by decide +kernel
theorem dX7_hasPlace_6 : decode cX7_hasPlace 6 = .ok (.getfield 9, 3) := by decide +kernel
theorem dX7_hasPlace_9 : decode cX7_hasPlace 9 = .ok (.iload_n 1, 1) := by decide +kernel
theorem dX7_hasPlace_10 : decode cX7_hasPlace 10 = .ok (.iaload, 1) := by decide +kernel
theorem dX7_hasPlace_11 : decode cX7_hasPlace 11 = .ok (.if_icmp .ge 7, 3) := by decide +kernel
theorem dX7_hasPlace_14 : decode cX7_hasPlace 14 = .ok (.iconst 1, 1) := by decide +kernel
theorem dX7_hasPlace_15 : decode cX7_hasPlace 15 = .ok (.goto 4, 3) := by decide +kernel
theorem dX7_hasPlace_18 : decode cX7_hasPlace 18 = .ok (.iconst 0, 1) := by decide +kernel
theorem dX7_hasPlace_19 : decode cX7_hasPlace 19 = .ok (.ireturn, 1) := by decide +kernel
theorem dX7_allParts_0 : decode cX7_allParts 0 = .ok (.iconst 1, 1) := by decide +kernel
theorem dX7_allParts_1 : decode cX7_allParts 1 = .ok (.aload_n 0, 1) := by decide +kernel
theorem dX7_allParts_2 : decode cX7_allParts 2 = .ok (.getfield 32, 3) := by decide +kernel
theorem dX7_allParts_5 : decode cX7_allParts 5 = .ok (.ishl, 1) := by decide +kernel
theorem dX7_allParts_6 : decode cX7_allParts 6 = .ok (.iconst 1, 1) := by decide +kernel
theorem dX7_allParts_7 : decode cX7_allParts 7 = .ok (.isub, 1) := by decide +kernel
theorem dX7_allParts_8 : decode cX7_allParts 8 = .ok (.ireturn, 1) := by decide +kernel
set_option maxRecDepth 20000 in
theorem ggX7_periodOf_X8_commonMultiple : GoodIn wsX7_periodOf wsX8_commonMultiple := goodIn_r _ [5, 6, 7, 4, 8] (by decide +kernel) (by decide +kernel)
set_option maxRecDepth 20000 in
theorem gX7_periodOf_X8_commonMultiple_n48 : GoodIn wsX7_periodOf (wsX8_commonMultiple) := ggX7_periodOf_X8_commonMultiple
theorem dX7_periodOf_0 : decode cX7_periodOf 0 = .ok (.iconst 1, 1) := by decide +kernel
theorem dX7_periodOf_1 : decode cX7_periodOf 1 = .ok (.istore_n 2, 1) := by decide +kernel
theorem dX7_periodOf_2 : decode cX7_periodOf 2 = .ok (.iconst 0, 1) := by decide +kernel
theorem dX7_periodOf_3 : decode cX7_periodOf 3 = .ok (.istore_n 3, 1) := by decide +kernel
theorem dX7_periodOf_4 : decode cX7_periodOf 4 = .ok (.iload_n 3, 1) := by decide +kernel
theorem dX7_periodOf_5 : decode cX7_periodOf 5 = .ok (.aload_n 0, 1) := by decide +kernel
theorem dX7_periodOf_6 : decode cX7_periodOf 6 = .ok (.getfield 32, 3) := by decide +kernel
theorem dX7_periodOf_9 : decode cX7_periodOf 9 = .ok (.if_icmp .ge 29, 3) := by decide +kernel
theorem dX7_periodOf_12 : decode cX7_periodOf 12 = .ok (.iload_n 1, 1) := by decide +kernel
theorem dX7_periodOf_13 : decode cX7_periodOf 13 = .ok (.iload_n 3, 1) := by decide +kernel
theorem dX7_periodOf_14 : decode cX7_periodOf 14 = .ok (.ishr, 1) := by decide +kernel
theorem dX7_periodOf_15 : decode cX7_periodOf 15 = .ok (.iconst 1, 1) := by decide +kernel
theorem dX7_periodOf_16 : decode cX7_periodOf 16 = .ok (.iand, 1) := by decide +kernel
theorem dX7_periodOf_17 : decode cX7_periodOf 17 = .ok (.iconst 1, 1) := by decide +kernel
theorem dX7_periodOf_18 : decode cX7_periodOf 18 = .ok (.if_icmp .ne 14, 3) := by decide +kernel
theorem dX7_periodOf_21 : decode cX7_periodOf 21 = .ok (.iload_n 2, 1) := by decide +kernel
theorem dX7_periodOf_22 : decode cX7_periodOf 22 = .ok (.aload_n 0, 1) := by decide +kernel
theorem dX7_periodOf_23 : decode cX7_periodOf 23 = .ok (.getfield 9, 3) := by decide +kernel
theorem dX7_periodOf_26 : decode cX7_periodOf 26 = .ok (.iload_n 3, 1) := by decide +kernel
theorem dX7_periodOf_27 : decode cX7_periodOf 27 = .ok (.iaload, 1) := by decide +kernel
theorem dX7_periodOf_28 : decode cX7_periodOf 28 = .ok (.invokestatic 48, 3) := by decide +kernel
theorem dX7_periodOf_31 : decode cX7_periodOf 31 = .ok (.istore_n 2, 1) := by decide +kernel
theorem dX7_periodOf_32 : decode cX7_periodOf 32 = .ok (.iinc 3 1, 3) := by decide +kernel
theorem dX7_periodOf_35 : decode cX7_periodOf 35 = .ok (.goto (-31), 3) := by decide +kernel
theorem dX7_periodOf_38 : decode cX7_periodOf 38 = .ok (.iload_n 2, 1) := by decide +kernel
theorem dX7_periodOf_39 : decode cX7_periodOf 39 = .ok (.ireturn, 1) := by decide +kernel
theorem dX7_votesOf_0 : decode cX7_votesOf 0 = .ok (.iconst 0, 1) := by decide +kernel
theorem dX7_votesOf_1 : decode cX7_votesOf 1 = .ok (.istore_n 2, 1) := by decide +kernel
theorem dX7_votesOf_2 : decode cX7_votesOf 2 = .ok (.iconst 0, 1) := by decide +kernel
theorem dX7_votesOf_3 : decode cX7_votesOf 3 = .ok (.istore_n 3, 1) := by decide +kernel
theorem dX7_votesOf_4 : decode cX7_votesOf 4 = .ok (.iload_n 3, 1) := by decide +kernel
theorem dX7_votesOf_5 : decode cX7_votesOf 5 = .ok (.aload_n 0, 1) := by decide +kernel
theorem dX7_votesOf_6 : decode cX7_votesOf 6 = .ok (.getfield 32, 3) := by decide +kernel
theorem dX7_votesOf_9 : decode cX7_votesOf 9 = .ok (.if_icmp .ge 27, 3) := by decide +kernel
theorem dX7_votesOf_12 : decode cX7_votesOf 12 = .ok (.iload_n 1, 1) := by decide +kernel
theorem dX7_votesOf_13 : decode cX7_votesOf 13 = .ok (.iload_n 3, 1) := by decide +kernel
theorem dX7_votesOf_14 : decode cX7_votesOf 14 = .ok (.ishr, 1) := by decide +kernel
theorem dX7_votesOf_15 : decode cX7_votesOf 15 = .ok (.iconst 1, 1) := by decide +kernel
theorem dX7_votesOf_16 : decode cX7_votesOf 16 = .ok (.iand, 1) := by decide +kernel
theorem dX7_votesOf_17 : decode cX7_votesOf 17 = .ok (.iconst 1, 1) := by decide +kernel
theorem dX7_votesOf_18 : decode cX7_votesOf 18 = .ok (.if_icmp .ne 12, 3) := by decide +kernel
theorem dX7_votesOf_21 : decode cX7_votesOf 21 = .ok (.iload_n 2, 1) := by decide +kernel
theorem dX7_votesOf_22 : decode cX7_votesOf 22 = .ok (.aload_n 0, 1) := by decide +kernel
theorem dX7_votesOf_23 : decode cX7_votesOf 23 = .ok (.getfield 18, 3) := by decide +kernel
theorem dX7_votesOf_26 : decode cX7_votesOf 26 = .ok (.iload_n 3, 1) := by decide +kernel
theorem dX7_votesOf_27 : decode cX7_votesOf 27 = .ok (.iaload, 1) := by decide +kernel
theorem dX7_votesOf_28 : decode cX7_votesOf 28 = .ok (.iadd, 1) := by decide +kernel
theorem dX7_votesOf_29 : decode cX7_votesOf 29 = .ok (.istore_n 2, 1) := by decide +kernel
theorem dX7_votesOf_30 : decode cX7_votesOf 30 = .ok (.iinc 3 1, 3) := by decide +kernel
theorem dX7_votesOf_33 : decode cX7_votesOf 33 = .ok (.goto (-29), 3) := by decide +kernel
theorem dX7_votesOf_36 : decode cX7_votesOf 36 = .ok (.iload_n 2, 1) := by decide +kernel
theorem dX7_votesOf_37 : decode cX7_votesOf 37 = .ok (.ireturn, 1) := by decide +kernel
set_option maxRecDepth 20000 in
theorem ggX7_chipOf_X8_rest : GoodIn wsX7_chipOf wsX8_rest := goodIn_r _ [5] (by decide +kernel) (by decide +kernel)
set_option maxRecDepth 20000 in
theorem gX7_chipOf_X8_rest_n52 : GoodIn wsX7_chipOf (wsX8_rest) := ggX7_chipOf_X8_rest
theorem dX7_chipOf_0 : decode cX7_chipOf 0 = .ok (.aload_n 0, 1) := by decide +kernel
theorem dX7_chipOf_1 : decode cX7_chipOf 1 = .ok (.getfield 15, 3) := by decide +kernel
theorem dX7_chipOf_4 : decode cX7_chipOf 4 = .ok (.iload_n 1, 1) := by decide +kernel
theorem dX7_chipOf_5 : decode cX7_chipOf 5 = .ok (.iaload, 1) := by decide +kernel
theorem dX7_chipOf_6 : decode cX7_chipOf 6 = .ok (.iload_n 2, 1) := by decide +kernel
theorem dX7_chipOf_7 : decode cX7_chipOf 7 = .ok (.aload_n 0, 1) := by decide +kernel
theorem dX7_chipOf_8 : decode cX7_chipOf 8 = .ok (.getfield 9, 3) := by decide +kernel
theorem dX7_chipOf_11 : decode cX7_chipOf 11 = .ok (.iload_n 1, 1) := by decide +kernel
theorem dX7_chipOf_12 : decode cX7_chipOf 12 = .ok (.iaload, 1) := by decide +kernel
theorem dX7_chipOf_13 : decode cX7_chipOf 13 = .ok (.invokestatic 52, 3) := by decide +kernel
theorem dX7_chipOf_16 : decode cX7_chipOf 16 = .ok (.ishr, 1) := by decide +kernel
theorem dX7_chipOf_17 : decode cX7_chipOf 17 = .ok (.iconst 1, 1) := by decide +kernel
theorem dX7_chipOf_18 : decode cX7_chipOf 18 = .ok (.iand, 1) := by decide +kernel
theorem dX7_chipOf_19 : decode cX7_chipOf 19 = .ok (.ireturn, 1) := by decide +kernel
set_option maxRecDepth 20000 in
theorem ggX7_election_X7_hasPart : GoodIn wsX7_election wsX7_hasPart := goodIn_r _ [6, 7, 16, 17, 18, 19, 20, 21] (by decide +kernel) (by decide +kernel)
set_option maxRecDepth 20000 in
theorem gX7_election_X7_hasPart : GoodIn wsX7_election (wsV RX7 55 RX7 yX7_hasPart wsX7_hasPart) := goodIn_app (goodIn_of _ (by decide +kernel)) ggX7_election_X7_hasPart
set_option maxRecDepth 20000 in
theorem ggX7_election_X7_allParts : GoodIn wsX7_election wsX7_allParts := goodIn_r _ [11, 7, 16, 17, 18, 19, 20, 21] (by decide +kernel) (by decide +kernel)
set_option maxRecDepth 20000 in
theorem gX7_election_X7_allParts : GoodIn wsX7_election (wsV RX7 59 RX7 yX7_allParts wsX7_allParts) := goodIn_app (goodIn_of _ (by decide +kernel)) ggX7_election_X7_allParts
set_option maxRecDepth 20000 in
theorem ggX7_election_X7_votesOf : GoodIn wsX7_election wsX7_votesOf := goodIn_r _ [15, 7, 1, 16, 17, 18, 19, 20, 21] (by decide +kernel) (by decide +kernel)
set_option maxRecDepth 20000 in
theorem gX7_election_X7_votesOf : GoodIn wsX7_election (wsV RX7 63 RX7 yX7_votesOf wsX7_votesOf) := goodIn_app (goodIn_of _ (by decide +kernel)) ggX7_election_X7_votesOf
theorem dX7_election_0 : decode cX7_election 0 = .ok (.aload_n 0, 1) := by decide +kernel
theorem dX7_election_1 : decode cX7_election 1 = .ok (.iload_n 1, 1) := by decide +kernel
theorem dX7_election_2 : decode cX7_election 2 = .ok (.invokevirtual 55, 3) := by decide +kernel
theorem dX7_election_5 : decode cX7_election 5 = .ok (.ifCond .eq 14, 3) := by decide +kernel
theorem dX7_election_8 : decode cX7_election 8 = .ok (.iload_n 2, 1) := by decide +kernel
theorem dX7_election_9 : decode cX7_election 9 = .ok (.aload_n 0, 1) := by decide +kernel
theorem dX7_election_10 : decode cX7_election 10 = .ok (.getfield 18, 3) := by decide +kernel
theorem dX7_election_13 : decode cX7_election 13 = .ok (.iload_n 1, 1) := by decide +kernel
theorem dX7_election_14 : decode cX7_election 14 = .ok (.iaload, 1) := by decide +kernel
theorem dX7_election_15 : decode cX7_election 15 = .ok (.isub, 1) := by decide +kernel
theorem dX7_election_16 : decode cX7_election 16 = .ok (.goto 4, 3) := by decide +kernel
theorem dX7_election_19 : decode cX7_election 19 = .ok (.iconst 0, 1) := by decide +kernel
theorem dX7_election_20 : decode cX7_election 20 = .ok (.istore_n 3, 1) := by decide +kernel
theorem dX7_election_21 : decode cX7_election 21 = .ok (.aload_n 0, 1) := by decide +kernel
theorem dX7_election_22 : decode cX7_election 22 = .ok (.aload_n 0, 1) := by decide +kernel
theorem dX7_election_23 : decode cX7_election 23 = .ok (.invokevirtual 59, 3) := by decide +kernel
theorem dX7_election_26 : decode cX7_election 26 = .ok (.invokevirtual 63, 3) := by decide +kernel
theorem dX7_election_29 : decode cX7_election 29 = .ok (.iload_n 3, 1) := by decide +kernel
theorem dX7_election_30 : decode cX7_election 30 = .ok (.iadd, 1) := by decide +kernel
theorem dX7_election_31 : decode cX7_election 31 = .ok (.istore 4, 2) := by decide +kernel
theorem dX7_election_33 : decode cX7_election 33 = .ok (.iconst 0, 1) := by decide +kernel
theorem dX7_election_34 : decode cX7_election 34 = .ok (.istore 5, 2) := by decide +kernel
theorem dX7_election_36 : decode cX7_election 36 = .ok (.iconst 0, 1) := by decide +kernel
theorem dX7_election_37 : decode cX7_election 37 = .ok (.istore 6, 2) := by decide +kernel
theorem dX7_election_39 : decode cX7_election 39 = .ok (.iload 6, 2) := by decide +kernel
theorem dX7_election_41 : decode cX7_election 41 = .ok (.aload_n 0, 1) := by decide +kernel
theorem dX7_election_42 : decode cX7_election 42 = .ok (.invokevirtual 59, 3) := by decide +kernel
theorem dX7_election_45 : decode cX7_election 45 = .ok (.if_icmp .gt 96, 3) := by decide +kernel
theorem dX7_election_48 : decode cX7_election 48 = .ok (.aload_n 0, 1) := by decide +kernel
theorem dX7_election_49 : decode cX7_election 49 = .ok (.iload 6, 2) := by decide +kernel
theorem dX7_election_51 : decode cX7_election 51 = .ok (.invokevirtual 63, 3) := by decide +kernel
theorem dX7_election_54 : decode cX7_election 54 = .ok (.istore 7, 2) := by decide +kernel
theorem dX7_election_56 : decode cX7_election 56 = .ok (.aload_n 0, 1) := by decide +kernel
theorem dX7_election_57 : decode cX7_election 57 = .ok (.iload_n 1, 1) := by decide +kernel
theorem dX7_election_58 : decode cX7_election 58 = .ok (.invokevirtual 55, 3) := by decide +kernel
theorem dX7_election_61 : decode cX7_election 61 = .ok (.ifCond .eq 19, 3) := by decide +kernel
theorem dX7_election_64 : decode cX7_election 64 = .ok (.iload 6, 2) := by decide +kernel
theorem dX7_election_66 : decode cX7_election 66 = .ok (.iload_n 1, 1) := by decide +kernel
theorem dX7_election_67 : decode cX7_election 67 = .ok (.ishr, 1) := by decide +kernel
theorem dX7_election_68 : decode cX7_election 68 = .ok (.iconst 1, 1) := by decide +kernel
theorem dX7_election_69 : decode cX7_election 69 = .ok (.iand, 1) := by decide +kernel
theorem dX7_election_70 : decode cX7_election 70 = .ok (.iconst 1, 1) := by decide +kernel
theorem dX7_election_71 : decode cX7_election 71 = .ok (.if_icmp .ne 9, 3) := by decide +kernel
theorem dX7_election_74 : decode cX7_election 74 = .ok (.iload 7, 2) := by decide +kernel
theorem dX7_election_76 : decode cX7_election 76 = .ok (.iload_n 3, 1) := by decide +kernel
theorem dX7_election_77 : decode cX7_election 77 = .ok (.iadd, 1) := by decide +kernel
theorem dX7_election_78 : decode cX7_election 78 = .ok (.istore 7, 2) := by decide +kernel
theorem dX7_election_80 : decode cX7_election 80 = .ok (.iconst 2, 1) := by decide +kernel
theorem dX7_election_81 : decode cX7_election 81 = .ok (.iload 7, 2) := by decide +kernel
theorem dX7_election_83 : decode cX7_election 83 = .ok (.imul, 1) := by decide +kernel
theorem dX7_election_84 : decode cX7_election 84 = .ok (.iload 4, 2) := by decide +kernel
theorem dX7_election_86 : decode cX7_election 86 = .ok (.if_icmp .ne 19, 3) := by decide +kernel
theorem dX7_election_89 : decode cX7_election 89 = .ok (.iload 6, 2) := by decide +kernel
theorem dX7_election_91 : decode cX7_election 91 = .ok (.iconst 1, 1) := by decide +kernel
theorem dX7_election_92 : decode cX7_election 92 = .ok (.iand, 1) := by decide +kernel
theorem dX7_election_93 : decode cX7_election 93 = .ok (.iconst 1, 1) := by decide +kernel
theorem dX7_election_94 : decode cX7_election 94 = .ok (.if_icmp .ne 7, 3) := by decide +kernel
theorem dX7_election_97 : decode cX7_election 97 = .ok (.iconst 1, 1) := by decide +kernel
theorem dX7_election_98 : decode cX7_election 98 = .ok (.goto 21, 3) := by decide +kernel
theorem dX7_election_101 : decode cX7_election 101 = .ok (.iconst 0, 1) := by decide +kernel
theorem dX7_election_102 : decode cX7_election 102 = .ok (.goto 17, 3) := by decide +kernel
theorem dX7_election_105 : decode cX7_election 105 = .ok (.iconst 2, 1) := by decide +kernel
theorem dX7_election_106 : decode cX7_election 106 = .ok (.iload 7, 2) := by decide +kernel
theorem dX7_election_108 : decode cX7_election 108 = .ok (.imul, 1) := by decide +kernel
theorem dX7_election_109 : decode cX7_election 109 = .ok (.iload 4, 2) := by decide +kernel
theorem dX7_election_111 : decode cX7_election 111 = .ok (.if_icmp .le 7, 3) := by decide +kernel
theorem dX7_election_114 : decode cX7_election 114 = .ok (.iconst 1, 1) := by decide +kernel
theorem dX7_election_115 : decode cX7_election 115 = .ok (.goto 4, 3) := by decide +kernel
theorem dX7_election_118 : decode cX7_election 118 = .ok (.iconst 0, 1) := by decide +kernel
theorem dX7_election_119 : decode cX7_election 119 = .ok (.istore 8, 2) := by decide +kernel
theorem dX7_election_121 : decode cX7_election 121 = .ok (.iload 8, 2) := by decide +kernel
theorem dX7_election_123 : decode cX7_election 123 = .ok (.ifCond .eq 12, 3) := by decide +kernel
theorem dX7_election_126 : decode cX7_election 126 = .ok (.iload 5, 2) := by decide +kernel
theorem dX7_election_128 : decode cX7_election 128 = .ok (.iconst 1, 1) := by decide +kernel
theorem dX7_election_129 : decode cX7_election 129 = .ok (.iload 6, 2) := by decide +kernel
theorem dX7_election_131 : decode cX7_election 131 = .ok (.ishl, 1) := by decide +kernel
theorem dX7_election_132 : decode cX7_election 132 = .ok (.ior, 1) := by decide +kernel
theorem dX7_election_133 : decode cX7_election 133 = .ok (.istore 5, 2) := by decide +kernel
theorem dX7_election_135 : decode cX7_election 135 = .ok (.iinc 6 1, 3) := by decide +kernel
theorem dX7_election_138 : decode cX7_election 138 = .ok (.goto (-99), 3) := by decide +kernel
theorem dX7_election_141 : decode cX7_election 141 = .ok (.iload 5, 2) := by decide +kernel
theorem dX7_election_143 : decode cX7_election 143 = .ok (.ireturn, 1) := by decide +kernel
set_option maxRecDepth 20000 in
theorem ggX7_codeChip_X8_rest : GoodIn wsX7_codeChip wsX8_rest := goodIn_r _ [6] (by decide +kernel) (by decide +kernel)
set_option maxRecDepth 20000 in
theorem gX7_codeChip_X8_rest_n52 : GoodIn wsX7_codeChip (wsX8_rest) := ggX7_codeChip_X8_rest
theorem dX7_codeChip_0 : decode cX7_codeChip 0 = .ok (.iconst 0, 1) := by decide +kernel
theorem dX7_codeChip_1 : decode cX7_codeChip 1 = .ok (.istore_n 3, 1) := by decide +kernel
theorem dX7_codeChip_2 : decode cX7_codeChip 2 = .ok (.iconst 0, 1) := by decide +kernel
theorem dX7_codeChip_3 : decode cX7_codeChip 3 = .ok (.istore 4, 2) := by decide +kernel
theorem dX7_codeChip_5 : decode cX7_codeChip 5 = .ok (.iload 4, 2) := by decide +kernel
theorem dX7_codeChip_7 : decode cX7_codeChip 7 = .ok (.aload_n 0, 1) := by decide +kernel
theorem dX7_codeChip_8 : decode cX7_codeChip 8 = .ok (.getfield 32, 3) := by decide +kernel
theorem dX7_codeChip_11 : decode cX7_codeChip 11 = .ok (.if_icmp .ge 36, 3) := by decide +kernel
theorem dX7_codeChip_14 : decode cX7_codeChip 14 = .ok (.iload_n 3, 1) := by decide +kernel
theorem dX7_codeChip_15 : decode cX7_codeChip 15 = .ok (.aload_n 0, 1) := by decide +kernel
theorem dX7_codeChip_16 : decode cX7_codeChip 16 = .ok (.getfield 15, 3) := by decide +kernel
theorem dX7_codeChip_19 : decode cX7_codeChip 19 = .ok (.iload 4, 2) := by decide +kernel
theorem dX7_codeChip_21 : decode cX7_codeChip 21 = .ok (.iaload, 1) := by decide +kernel
theorem dX7_codeChip_22 : decode cX7_codeChip 22 = .ok (.iload_n 1, 1) := by decide +kernel
theorem dX7_codeChip_23 : decode cX7_codeChip 23 = .ok (.aload_n 0, 1) := by decide +kernel
theorem dX7_codeChip_24 : decode cX7_codeChip 24 = .ok (.getfield 9, 3) := by decide +kernel
theorem dX7_codeChip_27 : decode cX7_codeChip 27 = .ok (.iload 4, 2) := by decide +kernel
theorem dX7_codeChip_29 : decode cX7_codeChip 29 = .ok (.iaload, 1) := by decide +kernel
theorem dX7_codeChip_30 : decode cX7_codeChip 30 = .ok (.invokestatic 52, 3) := by decide +kernel
theorem dX7_codeChip_33 : decode cX7_codeChip 33 = .ok (.ishr, 1) := by decide +kernel
theorem dX7_codeChip_34 : decode cX7_codeChip 34 = .ok (.iconst 1, 1) := by decide +kernel
theorem dX7_codeChip_35 : decode cX7_codeChip 35 = .ok (.iand, 1) := by decide +kernel
theorem dX7_codeChip_36 : decode cX7_codeChip 36 = .ok (.iload 4, 2) := by decide +kernel
theorem dX7_codeChip_38 : decode cX7_codeChip 38 = .ok (.ishl, 1) := by decide +kernel
theorem dX7_codeChip_39 : decode cX7_codeChip 39 = .ok (.ior, 1) := by decide +kernel
theorem dX7_codeChip_40 : decode cX7_codeChip 40 = .ok (.istore_n 3, 1) := by decide +kernel
theorem dX7_codeChip_41 : decode cX7_codeChip 41 = .ok (.iinc 4 1, 3) := by decide +kernel
theorem dX7_codeChip_44 : decode cX7_codeChip 44 = .ok (.goto (-39), 3) := by decide +kernel
theorem dX7_codeChip_47 : decode cX7_codeChip 47 = .ok (.iload_n 2, 1) := by decide +kernel
theorem dX7_codeChip_48 : decode cX7_codeChip 48 = .ok (.iload_n 3, 1) := by decide +kernel
theorem dX7_codeChip_49 : decode cX7_codeChip 49 = .ok (.iushr, 1) := by decide +kernel
theorem dX7_codeChip_50 : decode cX7_codeChip 50 = .ok (.iconst 1, 1) := by decide +kernel
theorem dX7_codeChip_51 : decode cX7_codeChip 51 = .ok (.iand, 1) := by decide +kernel
theorem dX7_codeChip_52 : decode cX7_codeChip 52 = .ok (.ireturn, 1) := by decide +kernel
set_option maxRecDepth 20000 in
theorem ggX8_init_X2_init : GoodIn wsX8_init wsX2_init := goodIn_r _ [33, 34, 2, 3, 35, 36, 37, 38, 39, 40, 41, 42, 43, 44, 45, 46, 47, 48, 49, 50, 51, 52, 53, 54, 55, 56, 57, 58, 59, 60, 61, 62, 156, 157, 158, 159, 160, 161, 104, 105, 106, 107, 108, 162, 163, 164, 165, 166] (by decide +kernel) (by decide +kernel)
set_option maxRecDepth 20000 in
theorem gX8_init_X2_init_n9 : GoodIn wsX8_init (wsX2_init) := ggX8_init_X2_init
set_option maxRecDepth 20000 in
theorem ggX8_init_X4_init : GoodIn wsX8_init wsX4_init := goodIn_r _ [65, 66, 2, 3, 67, 36, 37, 68, 69, 70, 43, 44, 45, 46, 47, 48, 49, 50, 51, 52, 53, 54, 55, 56, 57, 58, 59, 60, 61, 62, 156, 157, 158, 159, 160, 161, 117, 118, 119, 120, 121, 122, 123, 124, 125, 162, 163, 164, 165, 166] (by decide +kernel) (by decide +kernel)
set_option maxRecDepth 20000 in
theorem gX8_init_X4_init : GoodIn wsX8_init (wsX4_init) := ggX8_init_X4_init
set_option maxRecDepth 20000 in
theorem ggX8_init_X0_init : GoodIn wsX8_init wsX0_init := goodIn_r _ [73, 74, 2, 3, 46, 75, 76, 77, 78, 79, 80, 126, 127, 128, 129, 130, 131, 132, 133, 134, 135, 136, 137] (by decide +kernel) (by decide +kernel)
set_option maxRecDepth 20000 in
theorem gX8_init_X0_init : GoodIn wsX8_init (wsX0_init) := ggX8_init_X0_init
set_option maxRecDepth 20000 in
theorem ggX8_init_X5_init : GoodIn wsX8_init wsX5_init := goodIn_r _ [83, 84, 2, 3, 46, 85, 86, 87, 138, 139, 140, 141, 142, 143, 144] (by decide +kernel) (by decide +kernel)
set_option maxRecDepth 20000 in
theorem gX8_init_X5_init : GoodIn wsX8_init (wsX5_init) := ggX8_init_X5_init
set_option maxRecDepth 20000 in
theorem ggX8_init_X3_init : GoodIn wsX8_init wsX3_init := goodIn_r _ [90, 91, 2, 3, 46, 92, 93, 94, 95, 145, 146, 147, 148] (by decide +kernel) (by decide +kernel)
set_option maxRecDepth 20000 in
theorem gX8_init_X3_init : GoodIn wsX8_init (wsX3_init) := ggX8_init_X3_init
set_option maxRecDepth 20000 in
theorem ggX8_init_X6_init : GoodIn wsX8_init wsX6_init := goodIn_r _ [97, 98, 2, 3, 46, 99, 100, 101, 102, 103, 149, 150, 151, 152, 153, 154, 155] (by decide +kernel) (by decide +kernel)
set_option maxRecDepth 20000 in
theorem gX8_init_X6_init_n65 : GoodIn wsX8_init (wsX6_init) := ggX8_init_X6_init
theorem dX8_init_0 : decode cX8_init 0 = .ok (.aload_n 0, 1) := by decide +kernel
theorem dX8_init_1 : decode cX8_init 1 = .ok (.invokespecial 1, 3) := by decide +kernel
theorem dX8_init_4 : decode cX8_init 4 = .ok (.aload_n 0, 1) := by decide +kernel
theorem dX8_init_5 : decode cX8_init 5 = .ok (.new 7, 3) := by decide +kernel
theorem dX8_init_8 : decode cX8_init 8 = .ok (.dup, 1) := by decide +kernel
theorem dX8_init_9 : decode cX8_init 9 = .ok (.invokespecial 9, 3) := by decide +kernel
theorem dX8_init_12 : decode cX8_init 12 = .ok (.putfield 10, 3) := by decide +kernel
theorem dX8_init_15 : decode cX8_init 15 = .ok (.aload_n 0, 1) := by decide +kernel
theorem dX8_init_16 : decode cX8_init 16 = .ok (.iconst 3, 1) := by decide +kernel
theorem dX8_init_17 : decode cX8_init 17 = .ok (.anewarray 7, 3) := by decide +kernel
theorem dX8_init_20 : decode cX8_init 20 = .ok (.putfield 16, 3) := by decide +kernel
theorem dX8_init_23 : decode cX8_init 23 = .ok (.aload_n 0, 1) := by decide +kernel
theorem dX8_init_24 : decode cX8_init 24 = .ok (.aload_n 0, 1) := by decide +kernel
theorem dX8_init_25 : decode cX8_init 25 = .ok (.getfield 10, 3) := by decide +kernel
theorem dX8_init_28 : decode cX8_init 28 = .ok (.getfield 20, 3) := by decide +kernel
theorem dX8_init_31 : decode cX8_init 31 = .ok (.putfield 24, 3) := by decide +kernel
theorem dX8_init_34 : decode cX8_init 34 = .ok (.aload_n 0, 1) := by decide +kernel
theorem dX8_init_35 : decode cX8_init 35 = .ok (.new 25, 3) := by decide +kernel
theorem dX8_init_38 : decode cX8_init 38 = .ok (.dup, 1) := by decide +kernel
theorem dX8_init_39 : decode cX8_init 39 = .ok (.aload_n 0, 1) := by decide +kernel
theorem dX8_init_40 : decode cX8_init 40 = .ok (.getfield 10, 3) := by decide +kernel
theorem dX8_init_43 : decode cX8_init 43 = .ok (.getfield 27, 3) := by decide +kernel
theorem dX8_init_46 : decode cX8_init 46 = .ok (.invokespecial 31, 3) := by decide +kernel
theorem dX8_init_49 : decode cX8_init 49 = .ok (.putfield 34, 3) := by decide +kernel
theorem dX8_init_52 : decode cX8_init 52 = .ok (.aload_n 0, 1) := by decide +kernel
theorem dX8_init_53 : decode cX8_init 53 = .ok (.new 38, 3) := by decide +kernel
theorem dX8_init_56 : decode cX8_init 56 = .ok (.dup, 1) := by decide +kernel
theorem dX8_init_57 : decode cX8_init 57 = .ok (.aload_n 0, 1) := by decide +kernel
theorem dX8_init_58 : decode cX8_init 58 = .ok (.getfield 24, 3) := by decide +kernel
theorem dX8_init_61 : decode cX8_init 61 = .ok (.invokespecial 40, 3) := by decide +kernel
theorem dX8_init_64 : decode cX8_init 64 = .ok (.putfield 43, 3) := by decide +kernel
theorem dX8_init_67 : decode cX8_init 67 = .ok (.aload_n 0, 1) := by decide +kernel
theorem dX8_init_68 : decode cX8_init 68 = .ok (.new 47, 3) := by decide +kernel
theorem dX8_init_71 : decode cX8_init 71 = .ok (.dup, 1) := by decide +kernel
theorem dX8_init_72 : decode cX8_init 72 = .ok (.aload_n 0, 1) := by decide +kernel
theorem dX8_init_73 : decode cX8_init 73 = .ok (.getfield 43, 3) := by decide +kernel
theorem dX8_init_76 : decode cX8_init 76 = .ok (.invokespecial 49, 3) := by decide +kernel
theorem dX8_init_79 : decode cX8_init 79 = .ok (.putfield 52, 3) := by decide +kernel
theorem dX8_init_82 : decode cX8_init 82 = .ok (.aload_n 0, 1) := by decide +kernel
theorem dX8_init_83 : decode cX8_init 83 = .ok (.new 56, 3) := by decide +kernel
theorem dX8_init_86 : decode cX8_init 86 = .ok (.dup, 1) := by decide +kernel
theorem dX8_init_87 : decode cX8_init 87 = .ok (.aload_n 0, 1) := by decide +kernel
theorem dX8_init_88 : decode cX8_init 88 = .ok (.getfield 43, 3) := by decide +kernel
theorem dX8_init_91 : decode cX8_init 91 = .ok (.invokespecial 58, 3) := by decide +kernel
theorem dX8_init_94 : decode cX8_init 94 = .ok (.putfield 59, 3) := by decide +kernel
theorem dX8_init_97 : decode cX8_init 97 = .ok (.aload_n 0, 1) := by decide +kernel
theorem dX8_init_98 : decode cX8_init 98 = .ok (.new 63, 3) := by decide +kernel
theorem dX8_init_101 : decode cX8_init 101 = .ok (.dup, 1) := by decide +kernel
theorem dX8_init_102 : decode cX8_init 102 = .ok (.invokespecial 65, 3) := by decide +kernel
theorem dX8_init_105 : decode cX8_init 105 = .ok (.putfield 66, 3) := by decide +kernel
theorem dX8_init_108 : decode cX8_init 108 = .ok (.return_, 1) := by decide +kernel
set_option maxRecDepth 20000 in
theorem ggX8_write_X8_byteOf : GoodIn wsX8_write wsX8_byteOf := goodIn_r _ [7] (by decide +kernel) (by decide +kernel)
set_option maxRecDepth 20000 in
theorem gX8_write_X8_byteOf : GoodIn wsX8_write (va_wsS RX8 70 yX8_byteOf wsX8_byteOf) := goodIn_app (goodIn_of _ (by decide +kernel)) ggX8_write_X8_byteOf
theorem dX8_write_0 : decode cX8_write 0 = .ok (.iconst 0, 1) := by decide +kernel
theorem dX8_write_1 : decode cX8_write 1 = .ok (.istore_n 3, 1) := by decide +kernel
theorem dX8_write_2 : decode cX8_write 2 = .ok (.iload_n 3, 1) := by decide +kernel
theorem dX8_write_3 : decode cX8_write 3 = .ok (.bipush 8, 2) := by decide +kernel
theorem dX8_write_5 : decode cX8_write 5 = .ok (.if_icmp .ge 17, 3) := by decide +kernel
theorem dX8_write_8 : decode cX8_write 8 = .ok (.lload_n 1, 1) := by decide +kernel
theorem dX8_write_9 : decode cX8_write 9 = .ok (.iload_n 3, 1) := by decide +kernel
theorem dX8_write_10 : decode cX8_write 10 = .ok (.invokestatic 70, 3) := by decide +kernel
theorem dX8_write_13 : decode cX8_write 13 = .ok (.ifCond .eq 9, 3) := by decide +kernel
theorem dX8_write_16 : decode cX8_write 16 = .ok (.iinc 3 1, 3) := by decide +kernel
theorem dX8_write_19 : decode cX8_write 19 = .ok (.goto (-17), 3) := by decide +kernel
theorem dX8_write_22 : decode cX8_write 22 = .ok (.aload_n 0, 1) := by decide +kernel
theorem dX8_write_23 : decode cX8_write 23 = .ok (.getfield 10, 3) := by decide +kernel
theorem dX8_write_26 : decode cX8_write 26 = .ok (.getfield 74, 3) := by decide +kernel
theorem dX8_write_29 : decode cX8_write 29 = .ok (.iload_n 3, 1) := by decide +kernel
theorem dX8_write_30 : decode cX8_write 30 = .ok (.iadd, 1) := by decide +kernel
theorem dX8_write_31 : decode cX8_write 31 = .ok (.sipush 500, 3) := by decide +kernel
theorem dX8_write_34 : decode cX8_write 34 = .ok (.if_icmp .le 5, 3) := by decide +kernel
theorem dX8_write_37 : decode cX8_write 37 = .ok (.iconst (-1), 1) := by decide +kernel
theorem dX8_write_38 : decode cX8_write 38 = .ok (.ireturn, 1) := by decide +kernel
theorem dX8_write_39 : decode cX8_write 39 = .ok (.iconst 0, 1) := by decide +kernel
theorem dX8_write_40 : decode cX8_write 40 = .ok (.istore 4, 2) := by decide +kernel
theorem dX8_write_42 : decode cX8_write 42 = .ok (.iload 4, 2) := by decide +kernel
theorem dX8_write_44 : decode cX8_write 44 = .ok (.iload_n 3, 1) := by decide +kernel
theorem dX8_write_45 : decode cX8_write 45 = .ok (.if_icmp .ge 33, 3) := by decide +kernel
theorem dX8_write_48 : decode cX8_write 48 = .ok (.aload_n 0, 1) := by decide +kernel
theorem dX8_write_49 : decode cX8_write 49 = .ok (.getfield 10, 3) := by decide +kernel
theorem dX8_write_52 : decode cX8_write 52 = .ok (.getfield 27, 3) := by decide +kernel
theorem dX8_write_55 : decode cX8_write 55 = .ok (.aload_n 0, 1) := by decide +kernel
theorem dX8_write_56 : decode cX8_write 56 = .ok (.getfield 10, 3) := by decide +kernel
theorem dX8_write_59 : decode cX8_write 59 = .ok (.getfield 74, 3) := by decide +kernel
theorem dX8_write_62 : decode cX8_write 62 = .ok (.iload 4, 2) := by decide +kernel
theorem dX8_write_64 : decode cX8_write 64 = .ok (.iadd, 1) := by decide +kernel
theorem dX8_write_65 : decode cX8_write 65 = .ok (.lload_n 1, 1) := by decide +kernel
theorem dX8_write_66 : decode cX8_write 66 = .ok (.iload 4, 2) := by decide +kernel
theorem dX8_write_68 : decode cX8_write 68 = .ok (.invokestatic 70, 3) := by decide +kernel
theorem dX8_write_71 : decode cX8_write 71 = .ok (.bastore, 1) := by decide +kernel
theorem dX8_write_72 : decode cX8_write 72 = .ok (.iinc 4 1, 3) := by decide +kernel
theorem dX8_write_75 : decode cX8_write 75 = .ok (.goto (-33), 3) := by decide +kernel
theorem dX8_write_78 : decode cX8_write 78 = .ok (.aload_n 0, 1) := by decide +kernel
theorem dX8_write_79 : decode cX8_write 79 = .ok (.getfield 10, 3) := by decide +kernel
theorem dX8_write_82 : decode cX8_write 82 = .ok (.dup, 1) := by decide +kernel
theorem dX8_write_83 : decode cX8_write 83 = .ok (.getfield 74, 3) := by decide +kernel
theorem dX8_write_86 : decode cX8_write 86 = .ok (.iload_n 3, 1) := by decide +kernel
theorem dX8_write_87 : decode cX8_write 87 = .ok (.iadd, 1) := by decide +kernel
theorem dX8_write_88 : decode cX8_write 88 = .ok (.putfield 74, 3) := by decide +kernel
theorem dX8_write_91 : decode cX8_write 91 = .ok (.aload_n 0, 1) := by decide +kernel
theorem dX8_write_92 : decode cX8_write 92 = .ok (.getfield 10, 3) := by decide +kernel
theorem dX8_write_95 : decode cX8_write 95 = .ok (.getfield 74, 3) := by decide +kernel
theorem dX8_write_98 : decode cX8_write 98 = .ok (.ireturn, 1) := by decide +kernel
set_option maxRecDepth 20000 in
theorem ggX8_tune_X4_readAll : GoodIn wsX8_tune wsX4_readAll := goodIn_r _ [15, 16, 17, 18, 19, 20, 21, 22, 23, 24, 25, 26, 27, 28, 29, 30, 31, 32, 33, 34, 35, 36, 37, 38, 39, 40, 41, 42, 43, 14, 44, 45, 46, 47, 48, 49, 50, 51, 52, 53, 54, 55, 56, 57, 58, 59, 60, 61, 62, 63, 64, 65, 66, 67, 68, 69, 70, 71, 72, 73, 74, 75, 76, 77, 78, 79, 80, 81, 82, 83, 84, 85, 86, 87, 88, 89, 90, 91, 92, 93, 94, 95, 96, 97, 98, 99, 100, 101, 102, 103, 104, 105, 106, 107, 108, 109, 110, 111, 112, 113, 114, 115, 116, 117, 118, 119, 120, 121, 122, 123, 124, 125, 126, 127, 128, 129, 130, 131, 132, 133, 134, 135, 136, 137, 138, 139, 140, 141, 142, 143, 144, 145, 146, 147, 148, 149, 150, 151, 152, 153, 154, 155, 156, 157, 158, 159, 160, 161, 162, 163, 164, 165, 166, 167, 168, 169, 170, 171, 172, 173, 174, 175, 176, 177, 178, 179, 180, 207, 208, 209, 210, 211, 212, 213, 214, 215, 216, 217, 218, 219, 220, 221, 222, 223, 224, 225, 226] (by decide +kernel) (by decide +kernel)
set_option maxRecDepth 20000 in
theorem gX8_tune_X4_readAll : GoodIn wsX8_tune (wsV RX8 78 RX4 yX4_readAll wsX4_readAll) := goodIn_app (goodIn_of _ (by decide +kernel)) ggX8_tune_X4_readAll
set_option maxRecDepth 20000 in
theorem ggX8_tune_X7_copyFrom : GoodIn wsX8_tune wsX7_copyFrom := goodIn_r _ [184, 146, 185, 186, 187, 188, 145, 147, 29, 27, 28, 189, 190, 191, 33, 192, 35, 193, 178, 179, 180, 36, 216, 217, 218, 219, 220, 221, 222, 223, 224, 225, 226] (by decide +kernel) (by decide +kernel)
set_option maxRecDepth 20000 in
theorem gX8_tune_X7_copyFrom : GoodIn wsX8_tune (wsV RX8 91 RX7 yX7_copyFrom wsX7_copyFrom) := goodIn_app (goodIn_of _ (by decide +kernel)) ggX8_tune_X7_copyFrom
theorem dX8_tune_0 : decode cX8_tune 0 = .ok (.aload_n 0, 1) := by decide +kernel
theorem dX8_tune_1 : decode cX8_tune 1 = .ok (.getfield 34, 3) := by decide +kernel
theorem dX8_tune_4 : decode cX8_tune 4 = .ok (.aload_n 0, 1) := by decide +kernel
theorem dX8_tune_5 : decode cX8_tune 5 = .ok (.getfield 10, 3) := by decide +kernel
theorem dX8_tune_8 : decode cX8_tune 8 = .ok (.getfield 74, 3) := by decide +kernel
theorem dX8_tune_11 : decode cX8_tune 11 = .ok (.invokevirtual 78, 3) := by decide +kernel
theorem dX8_tune_14 : decode cX8_tune 14 = .ok (.aload_n 0, 1) := by decide +kernel
theorem dX8_tune_15 : decode cX8_tune 15 = .ok (.getfield 10, 3) := by decide +kernel
theorem dX8_tune_18 : decode cX8_tune 18 = .ok (.iconst 0, 1) := by decide +kernel
theorem dX8_tune_19 : decode cX8_tune 19 = .ok (.putfield 74, 3) := by decide +kernel
theorem dX8_tune_22 : decode cX8_tune 22 = .ok (.aload_n 0, 1) := by decide +kernel
theorem dX8_tune_23 : decode cX8_tune 23 = .ok (.getfield 10, 3) := by decide +kernel
theorem dX8_tune_26 : decode cX8_tune 26 = .ok (.aload_n 0, 1) := by decide +kernel
theorem dX8_tune_27 : decode cX8_tune 27 = .ok (.getfield 34, 3) := by decide +kernel
theorem dX8_tune_30 : decode cX8_tune 30 = .ok (.getfield 82, 3) := by decide +kernel
theorem dX8_tune_33 : decode cX8_tune 33 = .ok (.putfield 85, 3) := by decide +kernel
theorem dX8_tune_36 : decode cX8_tune 36 = .ok (.aload_n 0, 1) := by decide +kernel
theorem dX8_tune_37 : decode cX8_tune 37 = .ok (.getfield 10, 3) := by decide +kernel
theorem dX8_tune_40 : decode cX8_tune 40 = .ok (.aload_n 0, 1) := by decide +kernel
theorem dX8_tune_41 : decode cX8_tune 41 = .ok (.getfield 34, 3) := by decide +kernel
theorem dX8_tune_44 : decode cX8_tune 44 = .ok (.getfield 86, 3) := by decide +kernel
theorem dX8_tune_47 : decode cX8_tune 47 = .ok (.putfield 89, 3) := by decide +kernel
theorem dX8_tune_50 : decode cX8_tune 50 = .ok (.aload_n 0, 1) := by decide +kernel
theorem dX8_tune_51 : decode cX8_tune 51 = .ok (.getfield 34, 3) := by decide +kernel
theorem dX8_tune_54 : decode cX8_tune 54 = .ok (.getfield 82, 3) := by decide +kernel
theorem dX8_tune_57 : decode cX8_tune 57 = .ok (.ifCond .eq 5, 3) := by decide +kernel
theorem dX8_tune_60 : decode cX8_tune 60 = .ok (.iconst (-1), 1) := by decide +kernel
theorem dX8_tune_61 : decode cX8_tune 61 = .ok (.ireturn, 1) := by decide +kernel
theorem dX8_tune_62 : decode cX8_tune 62 = .ok (.aload_n 0, 1) := by decide +kernel
theorem dX8_tune_63 : decode cX8_tune 63 = .ok (.getfield 24, 3) := by decide +kernel
theorem dX8_tune_66 : decode cX8_tune 66 = .ok (.aload_n 0, 1) := by decide +kernel
theorem dX8_tune_67 : decode cX8_tune 67 = .ok (.getfield 34, 3) := by decide +kernel
theorem dX8_tune_70 : decode cX8_tune 70 = .ok (.getfield 90, 3) := by decide +kernel
theorem dX8_tune_73 : decode cX8_tune 73 = .ok (.invokevirtual 91, 3) := by decide +kernel
theorem dX8_tune_76 : decode cX8_tune 76 = .ok (.aload_n 0, 1) := by decide +kernel
theorem dX8_tune_77 : decode cX8_tune 77 = .ok (.getfield 24, 3) := by decide +kernel
theorem dX8_tune_80 : decode cX8_tune 80 = .ok (.getfield 96, 3) := by decide +kernel
theorem dX8_tune_83 : decode cX8_tune 83 = .ok (.ireturn, 1) := by decide +kernel
theorem dX8_fault_0 : decode cX8_fault 0 = .ok (.iload_n 1, 1) := by decide +kernel
theorem dX8_fault_1 : decode cX8_fault 1 = .ok (.ifCond .eq 13, 3) := by decide +kernel
theorem dX8_fault_4 : decode cX8_fault 4 = .ok (.aload_n 0, 1) := by decide +kernel
theorem dX8_fault_5 : decode cX8_fault 5 = .ok (.getfield 10, 3) := by decide +kernel
theorem dX8_fault_8 : decode cX8_fault 8 = .ok (.getfield 89, 3) := by decide +kernel
theorem dX8_fault_11 : decode cX8_fault 11 = .ok (.goto 10, 3) := by decide +kernel
theorem dX8_fault_14 : decode cX8_fault 14 = .ok (.aload_n 0, 1) := by decide +kernel
theorem dX8_fault_15 : decode cX8_fault 15 = .ok (.getfield 10, 3) := by decide +kernel
theorem dX8_fault_18 : decode cX8_fault 18 = .ok (.getfield 85, 3) := by decide +kernel
theorem dX8_fault_21 : decode cX8_fault 21 = .ok (.ireturn, 1) := by decide +kernel
set_option maxRecDepth 20000 in
theorem ggX8_set_X8_isLeg : GoodIn wsX8_set wsX8_isLeg := goodIn_r _ [9] (by decide +kernel) (by decide +kernel)
set_option maxRecDepth 20000 in
theorem gX8_set_X8_isLeg : GoodIn wsX8_set (va_wsS RX8 99 yX8_isLeg wsX8_isLeg) := goodIn_app (goodIn_of _ (by decide +kernel)) ggX8_set_X8_isLeg
theorem dX8_set_0 : decode cX8_set 0 = .ok (.iload_n 1, 1) := by decide +kernel
theorem dX8_set_1 : decode cX8_set 1 = .ok (.invokestatic 99, 3) := by decide +kernel
theorem dX8_set_4 : decode cX8_set 4 = .ok (.ifCond .eq 13, 3) := by decide +kernel
theorem dX8_set_7 : decode cX8_set 7 = .ok (.iload_n 2, 1) := by decide +kernel
theorem dX8_set_8 : decode cX8_set 8 = .ok (.ifCond .lt 9, 3) := by decide +kernel
theorem dX8_set_11 : decode cX8_set 11 = .ok (.iload_n 2, 1) := by decide +kernel
theorem dX8_set_12 : decode cX8_set 12 = .ok (.bipush 6, 2) := by decide +kernel
theorem dX8_set_14 : decode cX8_set 14 = .ok (.if_icmp .lt 5, 3) := by decide +kernel
theorem dX8_set_17 : decode cX8_set 17 = .ok (.iconst 0, 1) := by decide +kernel
theorem dX8_set_18 : decode cX8_set 18 = .ok (.ireturn, 1) := by decide +kernel
theorem dX8_set_19 : decode cX8_set 19 = .ok (.aload_n 0, 1) := by decide +kernel
theorem dX8_set_20 : decode cX8_set 20 = .ok (.getfield 24, 3) := by decide +kernel
theorem dX8_set_23 : decode cX8_set 23 = .ok (.getfield 103, 3) := by decide +kernel
theorem dX8_set_26 : decode cX8_set 26 = .ok (.iload_n 1, 1) := by decide +kernel
theorem dX8_set_27 : decode cX8_set 27 = .ok (.aaload, 1) := by decide +kernel
theorem dX8_set_28 : decode cX8_set 28 = .ok (.getfield 107, 3) := by decide +kernel
theorem dX8_set_31 : decode cX8_set 31 = .ok (.astore 4, 2) := by decide +kernel
theorem dX8_set_33 : decode cX8_set 33 = .ok (.iload_n 3, 1) := by decide +kernel
theorem dX8_set_34 : decode cX8_set 34 = .ok (.getstatic 113, 3) := by decide +kernel
theorem dX8_set_37 : decode cX8_set 37 = .ok (.iload_n 2, 1) := by decide +kernel
theorem dX8_set_38 : decode cX8_set 38 = .ok (.iaload, 1) := by decide +kernel
theorem dX8_set_39 : decode cX8_set 39 = .ok (.if_icmp .lt 20, 3) := by decide +kernel
theorem dX8_set_42 : decode cX8_set 42 = .ok (.iload_n 3, 1) := by decide +kernel
theorem dX8_set_43 : decode cX8_set 43 = .ok (.getstatic 116, 3) := by decide +kernel
theorem dX8_set_46 : decode cX8_set 46 = .ok (.iload_n 2, 1) := by decide +kernel
theorem dX8_set_47 : decode cX8_set 47 = .ok (.iaload, 1) := by decide +kernel
theorem dX8_set_48 : decode cX8_set 48 = .ok (.if_icmp .gt 11, 3) := by decide +kernel
theorem dX8_set_51 : decode cX8_set 51 = .ok (.iload_n 3, 1) := by decide +kernel
theorem dX8_set_52 : decode cX8_set 52 = .ok (.aload 4, 2) := by decide +kernel
theorem dX8_set_54 : decode cX8_set 54 = .ok (.iload_n 2, 1) := by decide +kernel
theorem dX8_set_55 : decode cX8_set 55 = .ok (.iaload, 1) := by decide +kernel
theorem dX8_set_56 : decode cX8_set 56 = .ok (.if_icmp .ne 5, 3) := by decide +kernel
theorem dX8_set_59 : decode cX8_set 59 = .ok (.iconst 0, 1) := by decide +kernel
theorem dX8_set_60 : decode cX8_set 60 = .ok (.ireturn, 1) := by decide +kernel
theorem dX8_set_61 : decode cX8_set 61 = .ok (.aload 4, 2) := by decide +kernel
theorem dX8_set_63 : decode cX8_set 63 = .ok (.iload_n 2, 1) := by decide +kernel
theorem dX8_set_64 : decode cX8_set 64 = .ok (.iload_n 3, 1) := by decide +kernel
theorem dX8_set_65 : decode cX8_set 65 = .ok (.iastore, 1) := by decide +kernel
theorem dX8_set_66 : decode cX8_set 66 = .ok (.iconst 1, 1) := by decide +kernel
theorem dX8_set_67 : decode cX8_set 67 = .ok (.ireturn, 1) := by decide +kernel
set_option maxRecDepth 20000 in
theorem ggX8_vote_X7_hasPart : GoodIn wsX8_vote wsX7_hasPart := goodIn_r _ [7, 8, 17, 18, 19, 20, 21, 22] (by decide +kernel) (by decide +kernel)
set_option maxRecDepth 20000 in
theorem gX8_vote_X7_hasPart : GoodIn wsX8_vote (wsV RX8 119 RX7 yX7_hasPart wsX7_hasPart) := goodIn_app (goodIn_of _ (by decide +kernel)) ggX8_vote_X7_hasPart
theorem dX8_vote_0 : decode cX8_vote 0 = .ok (.aload_n 0, 1) := by decide +kernel
theorem dX8_vote_1 : decode cX8_vote 1 = .ok (.getfield 24, 3) := by decide +kernel
theorem dX8_vote_4 : decode cX8_vote 4 = .ok (.iload_n 1, 1) := by decide +kernel
theorem dX8_vote_5 : decode cX8_vote 5 = .ok (.invokevirtual 119, 3) := by decide +kernel
theorem dX8_vote_8 : decode cX8_vote 8 = .ok (.ifCond .eq 27, 3) := by decide +kernel
theorem dX8_vote_11 : decode cX8_vote 11 = .ok (.iload_n 2, 1) := by decide +kernel
theorem dX8_vote_12 : decode cX8_vote 12 = .ok (.iconst 1, 1) := by decide +kernel
theorem dX8_vote_13 : decode cX8_vote 13 = .ok (.if_icmp .lt 22, 3) := by decide +kernel
theorem dX8_vote_16 : decode cX8_vote 16 = .ok (.iload_n 2, 1) := by decide +kernel
theorem dX8_vote_17 : decode cX8_vote 17 = .ok (.bipush 9, 2) := by decide +kernel
theorem dX8_vote_19 : decode cX8_vote 19 = .ok (.if_icmp .gt 16, 3) := by decide +kernel
theorem dX8_vote_22 : decode cX8_vote 22 = .ok (.iload_n 2, 1) := by decide +kernel
theorem dX8_vote_23 : decode cX8_vote 23 = .ok (.aload_n 0, 1) := by decide +kernel
theorem dX8_vote_24 : decode cX8_vote 24 = .ok (.getfield 24, 3) := by decide +kernel
theorem dX8_vote_27 : decode cX8_vote 27 = .ok (.getfield 122, 3) := by decide +kernel
theorem dX8_vote_30 : decode cX8_vote 30 = .ok (.iload_n 1, 1) := by decide +kernel
theorem dX8_vote_31 : decode cX8_vote 31 = .ok (.iaload, 1) := by decide +kernel
theorem dX8_vote_32 : decode cX8_vote 32 = .ok (.if_icmp .ne 5, 3) := by decide +kernel
theorem dX8_vote_35 : decode cX8_vote 35 = .ok (.iconst 0, 1) := by decide +kernel
theorem dX8_vote_36 : decode cX8_vote 36 = .ok (.ireturn, 1) := by decide +kernel
theorem dX8_vote_37 : decode cX8_vote 37 = .ok (.aload_n 0, 1) := by decide +kernel
theorem dX8_vote_38 : decode cX8_vote 38 = .ok (.getfield 24, 3) := by decide +kernel
theorem dX8_vote_41 : decode cX8_vote 41 = .ok (.getfield 122, 3) := by decide +kernel
theorem dX8_vote_44 : decode cX8_vote 44 = .ok (.iload_n 1, 1) := by decide +kernel
theorem dX8_vote_45 : decode cX8_vote 45 = .ok (.iload_n 2, 1) := by decide +kernel
theorem dX8_vote_46 : decode cX8_vote 46 = .ok (.iastore, 1) := by decide +kernel
theorem dX8_vote_47 : decode cX8_vote 47 = .ok (.iconst 1, 1) := by decide +kernel
theorem dX8_vote_48 : decode cX8_vote 48 = .ok (.ireturn, 1) := by decide +kernel
theorem dX8_limit_0 : decode cX8_limit 0 = .ok (.iload_n 1, 1) := by decide +kernel
theorem dX8_limit_1 : decode cX8_limit 1 = .ok (.iconst 1, 1) := by decide +kernel
theorem dX8_limit_2 : decode cX8_limit 2 = .ok (.if_icmp .lt 21, 3) := by decide +kernel
theorem dX8_limit_5 : decode cX8_limit 5 = .ok (.iload_n 1, 1) := by decide +kernel
theorem dX8_limit_6 : decode cX8_limit 6 = .ok (.sipush 9999, 3) := by decide +kernel
theorem dX8_limit_9 : decode cX8_limit 9 = .ok (.if_icmp .gt 14, 3) := by decide +kernel
theorem dX8_limit_12 : decode cX8_limit 12 = .ok (.iload_n 1, 1) := by decide +kernel
theorem dX8_limit_13 : decode cX8_limit 13 = .ok (.aload_n 0, 1) := by decide +kernel
theorem dX8_limit_14 : decode cX8_limit 14 = .ok (.getfield 24, 3) := by decide +kernel
theorem dX8_limit_17 : decode cX8_limit 17 = .ok (.getfield 125, 3) := by decide +kernel
theorem dX8_limit_20 : decode cX8_limit 20 = .ok (.if_icmp .ne 5, 3) := by decide +kernel
theorem dX8_limit_23 : decode cX8_limit 23 = .ok (.iconst 0, 1) := by decide +kernel
theorem dX8_limit_24 : decode cX8_limit 24 = .ok (.ireturn, 1) := by decide +kernel
theorem dX8_limit_25 : decode cX8_limit 25 = .ok (.aload_n 0, 1) := by decide +kernel
theorem dX8_limit_26 : decode cX8_limit 26 = .ok (.getfield 24, 3) := by decide +kernel
theorem dX8_limit_29 : decode cX8_limit 29 = .ok (.iload_n 1, 1) := by decide +kernel
theorem dX8_limit_30 : decode cX8_limit 30 = .ok (.putfield 125, 3) := by decide +kernel
theorem dX8_limit_33 : decode cX8_limit 33 = .ok (.iconst 1, 1) := by decide +kernel
theorem dX8_limit_34 : decode cX8_limit 34 = .ok (.ireturn, 1) := by decide +kernel
set_option maxRecDepth 20000 in
theorem ggX8_mark_X8_isLeg : GoodIn wsX8_mark wsX8_isLeg := goodIn_r _ [7] (by decide +kernel) (by decide +kernel)
set_option maxRecDepth 20000 in
theorem gX8_mark_X8_isLeg : GoodIn wsX8_mark (va_wsS RX8 99 yX8_isLeg wsX8_isLeg) := goodIn_app (goodIn_of _ (by decide +kernel)) ggX8_mark_X8_isLeg
set_option maxRecDepth 20000 in
theorem ggX8_mark_X1_addMark : GoodIn wsX8_mark wsX1_addMark := goodIn_r _ [12, 13, 14, 15, 16, 31, 32, 33, 34, 35] (by decide +kernel) (by decide +kernel)
set_option maxRecDepth 20000 in
theorem gX8_mark_X1_addMark : GoodIn wsX8_mark (wsV RX8 128 RX1 yX1_addMark wsX1_addMark) := goodIn_app (goodIn_of _ (by decide +kernel)) ggX8_mark_X1_addMark
theorem dX8_mark_0 : decode cX8_mark 0 = .ok (.iload_n 1, 1) := by decide +kernel
theorem dX8_mark_1 : decode cX8_mark 1 = .ok (.invokestatic 99, 3) := by decide +kernel
theorem dX8_mark_4 : decode cX8_mark 4 = .ok (.ifCond .eq 23, 3) := by decide +kernel
theorem dX8_mark_7 : decode cX8_mark 7 = .ok (.iload_n 2, 1) := by decide +kernel
theorem dX8_mark_8 : decode cX8_mark 8 = .ok (.ifCond .lt 19, 3) := by decide +kernel
theorem dX8_mark_11 : decode cX8_mark 11 = .ok (.iload_n 2, 1) := by decide +kernel
theorem dX8_mark_12 : decode cX8_mark 12 = .ok (.iconst 2, 1) := by decide +kernel
theorem dX8_mark_13 : decode cX8_mark 13 = .ok (.if_icmp .gt 14, 3) := by decide +kernel
theorem dX8_mark_16 : decode cX8_mark 16 = .ok (.iload_n 3, 1) := by decide +kernel
theorem dX8_mark_17 : decode cX8_mark 17 = .ok (.ifCond .lt 10, 3) := by decide +kernel
theorem dX8_mark_20 : decode cX8_mark 20 = .ok (.iload_n 3, 1) := by decide +kernel
theorem dX8_mark_21 : decode cX8_mark 21 = .ok (.sipush 200, 3) := by decide +kernel
theorem dX8_mark_24 : decode cX8_mark 24 = .ok (.if_icmp .lt 5, 3) := by decide +kernel
theorem dX8_mark_27 : decode cX8_mark 27 = .ok (.iconst (-1), 1) := by decide +kernel
theorem dX8_mark_28 : decode cX8_mark 28 = .ok (.ireturn, 1) := by decide +kernel
theorem dX8_mark_29 : decode cX8_mark 29 = .ok (.aload_n 0, 1) := by decide +kernel
theorem dX8_mark_30 : decode cX8_mark 30 = .ok (.getfield 24, 3) := by decide +kernel
theorem dX8_mark_33 : decode cX8_mark 33 = .ok (.getfield 103, 3) := by decide +kernel
theorem dX8_mark_36 : decode cX8_mark 36 = .ok (.iload_n 1, 1) := by decide +kernel
theorem dX8_mark_37 : decode cX8_mark 37 = .ok (.aaload, 1) := by decide +kernel
theorem dX8_mark_38 : decode cX8_mark 38 = .ok (.astore 4, 2) := by decide +kernel
theorem dX8_mark_40 : decode cX8_mark 40 = .ok (.aload 4, 2) := by decide +kernel
theorem dX8_mark_42 : decode cX8_mark 42 = .ok (.iload_n 2, 1) := by decide +kernel
theorem dX8_mark_43 : decode cX8_mark 43 = .ok (.iload_n 3, 1) := by decide +kernel
theorem dX8_mark_44 : decode cX8_mark 44 = .ok (.iload_n 3, 1) := by decide +kernel
theorem dX8_mark_45 : decode cX8_mark 45 = .ok (.invokevirtual 128, 3) := by decide +kernel
theorem dX8_mark_48 : decode cX8_mark 48 = .ok (.ifCond .eq 11, 3) := by decide +kernel
theorem dX8_mark_51 : decode cX8_mark 51 = .ok (.aload 4, 2) := by decide +kernel
theorem dX8_mark_53 : decode cX8_mark 53 = .ok (.getfield 132, 3) := by decide +kernel
theorem dX8_mark_56 : decode cX8_mark 56 = .ok (.goto 4, 3) := by decide +kernel
theorem dX8_mark_59 : decode cX8_mark 59 = .ok (.iconst (-1), 1) := by decide +kernel
theorem dX8_mark_60 : decode cX8_mark 60 = .ok (.ireturn, 1) := by decide +kernel
set_option maxRecDepth 20000 in
theorem ggX8_clean_X8_isLeg : GoodIn wsX8_clean wsX8_isLeg := goodIn_r _ [7] (by decide +kernel) (by decide +kernel)
set_option maxRecDepth 20000 in
theorem gX8_clean_X8_isLeg : GoodIn wsX8_clean (va_wsS RX8 99 yX8_isLeg wsX8_isLeg) := goodIn_app (goodIn_of _ (by decide +kernel)) ggX8_clean_X8_isLeg
theorem dX8_clean_0 : decode cX8_clean 0 = .ok (.iload_n 1, 1) := by decide +kernel
theorem dX8_clean_1 : decode cX8_clean 1 = .ok (.invokestatic 99, 3) := by decide +kernel
theorem dX8_clean_4 : decode cX8_clean 4 = .ok (.ifCond .ne 5, 3) := by decide +kernel
theorem dX8_clean_7 : decode cX8_clean 7 = .ok (.iconst (-1), 1) := by decide +kernel
theorem dX8_clean_8 : decode cX8_clean 8 = .ok (.ireturn, 1) := by decide +kernel
theorem dX8_clean_9 : decode cX8_clean 9 = .ok (.aload_n 0, 1) := by decide +kernel
theorem dX8_clean_10 : decode cX8_clean 10 = .ok (.getfield 24, 3) := by decide +kernel
theorem dX8_clean_13 : decode cX8_clean 13 = .ok (.getfield 103, 3) := by decide +kernel
theorem dX8_clean_16 : decode cX8_clean 16 = .ok (.iload_n 1, 1) := by decide +kernel
theorem dX8_clean_17 : decode cX8_clean 17 = .ok (.aaload, 1) := by decide +kernel
theorem dX8_clean_18 : decode cX8_clean 18 = .ok (.astore_n 2, 1) := by decide +kernel
theorem dX8_clean_19 : decode cX8_clean 19 = .ok (.aload_n 2, 1) := by decide +kernel
theorem dX8_clean_20 : decode cX8_clean 20 = .ok (.getfield 132, 3) := by decide +kernel
theorem dX8_clean_23 : decode cX8_clean 23 = .ok (.istore_n 3, 1) := by decide +kernel
theorem dX8_clean_24 : decode cX8_clean 24 = .ok (.aload_n 2, 1) := by decide +kernel
