theorem dX2_init_0 : decode cX2_init 0 = .ok (.aload_n 0, 1) := by decide +kernel
theorem dX2_init_1 : decode cX2_init 1 = .ok (.invokespecial 3, 3) := by decide +kernel
theorem dX2_init_4 : decode cX2_init 4 = .ok (.aload_n 0, 1) := by decide +kernel
theorem dX2_init_5 : decode cX2_init 5 = .ok (.iconst 0, 1) := by decide +kernel
theorem dX2_init_6 : decode cX2_init 6 = .ok (.putfield 11, 3) := by decide +kernel
theorem dX2_init_9 : decode cX2_init 9 = .ok (.aload_n 0, 1) := by decide +kernel
theorem dX2_init_10 : decode cX2_init 10 = .ok (.iconst 0, 1) := by decide +kernel
theorem dX2_init_11 : decode cX2_init 11 = .ok (.putfield 15, 3) := by decide +kernel
theorem dX2_init_14 : decode cX2_init 14 = .ok (.aload_n 0, 1) := by decide +kernel
theorem dX2_init_15 : decode cX2_init 15 = .ok (.iconst 0, 1) := by decide +kernel
theorem dX2_init_16 : decode cX2_init 16 = .ok (.putfield 18, 3) := by decide +kernel
theorem dX2_init_19 : decode cX2_init 19 = .ok (.aload_n 0, 1) := by decide +kernel
theorem dX2_init_20 : decode cX2_init 20 = .ok (.iconst 0, 1) := by decide +kernel
theorem dX2_init_21 : decode cX2_init 21 = .ok (.putfield 21, 3) := by decide +kernel
theorem dX2_init_24 : decode cX2_init 24 = .ok (.aload_n 0, 1) := by decide +kernel
theorem dX2_init_25 : decode cX2_init 25 = .ok (.iconst 0, 1) := by decide +kernel
theorem dX2_init_26 : decode cX2_init 26 = .ok (.putfield 24, 3) := by decide +kernel
theorem dX2_init_29 : decode cX2_init 29 = .ok (.return_, 1) := by decide +kernel
theorem dX2_letter_0 : decode cX2_letter 0 = .ok (.aload_n 0, 1) := by decide +kernel
theorem dX2_letter_1 : decode cX2_letter 1 = .ok (.getfield 15, 3) := by decide +kernel
theorem dX2_letter_4 : decode cX2_letter 4 = .ok (.ireturn, 1) := by decide +kernel
theorem dX2_fileNumber_0 : decode cX2_fileNumber 0 = .ok (.aload_n 0, 1) := by decide +kernel
theorem dX2_fileNumber_1 : decode cX2_fileNumber 1 = .ok (.getfield 18, 3) := by decide +kernel
theorem dX2_fileNumber_4 : decode cX2_fileNumber 4 = .ok (.ireturn, 1) := by decide +kernel
theorem dX2_firstNumber_0 : decode cX2_firstNumber 0 = .ok (.aload_n 0, 1) := by decide +kernel
theorem dX2_firstNumber_1 : decode cX2_firstNumber 1 = .ok (.getfield 21, 3) := by decide +kernel
theorem dX2_firstNumber_4 : decode cX2_firstNumber 4 = .ok (.ireturn, 1) := by decide +kernel
theorem dX2_secondNumber_0 : decode cX2_secondNumber 0 = .ok (.aload_n 0, 1) := by decide +kernel
theorem dX2_secondNumber_1 : decode cX2_secondNumber 1 = .ok (.getfield 24, 3) := by decide +kernel
theorem dX2_secondNumber_4 : decode cX2_secondNumber 4 = .ok (.ireturn, 1) := by decide +kernel
theorem dX2_begin_0 : decode cX2_begin 0 = .ok (.aload_n 0, 1) := by decide +kernel
theorem dX2_begin_1 : decode cX2_begin 1 = .ok (.iconst 0, 1) := by decide +kernel
theorem dX2_begin_2 : decode cX2_begin 2 = .ok (.putfield 11, 3) := by decide +kernel
theorem dX2_begin_5 : decode cX2_begin 5 = .ok (.return_, 1) := by decide +kernel
theorem dX2_isWhole_0 : decode cX2_isWhole 0 = .ok (.aload_n 0, 1) := by decide +kernel
theorem dX2_isWhole_1 : decode cX2_isWhole 1 = .ok (.getfield 11, 3) := by decide +kernel
theorem dX2_isWhole_4 : decode cX2_isWhole 4 = .ok (.bipush 7, 2) := by decide +kernel
theorem dX2_isWhole_6 : decode cX2_isWhole 6 = .ok (.if_icmp .eq 29, 3) := by decide +kernel
theorem dX2_isWhole_9 : decode cX2_isWhole 9 = .ok (.aload_n 0, 1) := by decide +kernel
theorem dX2_isWhole_10 : decode cX2_isWhole 10 = .ok (.getfield 11, 3) := by decide +kernel
theorem dX2_isWhole_13 : decode cX2_isWhole 13 = .ok (.bipush 6, 2) := by decide +kernel
theorem dX2_isWhole_15 : decode cX2_isWhole 15 = .ok (.if_icmp .eq 20, 3) := by decide +kernel
theorem dX2_isWhole_18 : decode cX2_isWhole 18 = .ok (.aload_n 0, 1) := by decide +kernel
theorem dX2_isWhole_19 : decode cX2_isWhole 19 = .ok (.getfield 11, 3) := by decide +kernel
theorem dX2_isWhole_22 : decode cX2_isWhole 22 = .ok (.iconst 4, 1) := by decide +kernel
theorem dX2_isWhole_23 : decode cX2_isWhole 23 = .ok (.if_icmp .ne 16, 3) := by decide +kernel
theorem dX2_isWhole_26 : decode cX2_isWhole 26 = .ok (.aload_n 0, 1) := by decide +kernel
theorem dX2_isWhole_27 : decode cX2_isWhole 27 = .ok (.getfield 15, 3) := by decide +kernel
theorem dX2_isWhole_30 : decode cX2_isWhole 30 = .ok (.bipush 116, 2) := by decide +kernel
theorem dX2_isWhole_32 : decode cX2_isWhole 32 = .ok (.if_icmp .ne 7, 3) := by decide +kernel
theorem dX2_isWhole_35 : decode cX2_isWhole 35 = .ok (.iconst 1, 1) := by decide +kernel
theorem dX2_isWhole_36 : decode cX2_isWhole 36 = .ok (.goto 4, 3) := by decide +kernel
theorem dX2_isWhole_39 : decode cX2_isWhole 39 = .ok (.iconst 0, 1) := by decide +kernel
theorem dX2_isWhole_40 : decode cX2_isWhole 40 = .ok (.ireturn, 1) := by decide +kernel
set_option maxRecDepth 20000 in
theorem ggX2_takes_X2_isWhole : GoodIn wsX2_takes wsX2_isWhole := goodIn_r _ [6, 1, 7, 42, 43, 44, 45, 46] (by decide +kernel) (by decide +kernel)
set_option maxRecDepth 20000 in
theorem gX2_takes_X2_isWhole : GoodIn wsX2_takes (wsV RX2 27 RX2 yX2_isWhole wsX2_isWhole) := goodIn_app (goodIn_of _ (by decide +kernel)) ggX2_takes_X2_isWhole
set_option maxRecDepth 20000 in
theorem ggX2_takes_X2_takesLetter : GoodIn wsX2_takes wsX2_takesLetter := goodIn_r _ [11, 7, 1, 42, 43, 44, 45, 46] (by decide +kernel) (by decide +kernel)
set_option maxRecDepth 20000 in
theorem gX2_takes_X2_takesLetter : GoodIn wsX2_takes (wsV RX2 31 RX2 yX2_takesLetter wsX2_takesLetter) := goodIn_app (goodIn_of _ (by decide +kernel)) ggX2_takes_X2_takesLetter
set_option maxRecDepth 20000 in
theorem ggX2_takes_X2_takesFile : GoodIn wsX2_takes wsX2_takesFile := goodIn_r _ [15, 16, 7, 1, 42, 43, 44, 45, 46] (by decide +kernel) (by decide +kernel)
set_option maxRecDepth 20000 in
theorem gX2_takes_X2_takesFile : GoodIn wsX2_takes (wsV RX2 35 RX2 yX2_takesFile wsX2_takesFile) := goodIn_app (goodIn_of _ (by decide +kernel)) ggX2_takes_X2_takesFile
set_option maxRecDepth 20000 in
theorem ggX2_takes_X2_takesMark : GoodIn wsX2_takes wsX2_takesMark := goodIn_r _ [20, 1, 42, 43, 44, 45, 46] (by decide +kernel) (by decide +kernel)
set_option maxRecDepth 20000 in
theorem gX2_takes_X2_takesMark : GoodIn wsX2_takes (wsV RX2 38 RX2 yX2_takesMark wsX2_takesMark) := goodIn_app (goodIn_of _ (by decide +kernel)) ggX2_takes_X2_takesMark
set_option maxRecDepth 20000 in
theorem ggX2_takes_X2_takesFirst : GoodIn wsX2_takes wsX2_takesFirst := goodIn_r _ [24, 25, 1, 7, 42, 43, 44, 45, 46] (by decide +kernel) (by decide +kernel)
set_option maxRecDepth 20000 in
theorem gX2_takes_X2_takesFirst : GoodIn wsX2_takes (wsV RX2 42 RX2 yX2_takesFirst wsX2_takesFirst) := goodIn_app (goodIn_of _ (by decide +kernel)) ggX2_takes_X2_takesFirst
set_option maxRecDepth 20000 in
theorem ggX2_takes_X2_takesMoreOfFirst : GoodIn wsX2_takes wsX2_takesMoreOfFirst := goodIn_r _ [29, 7, 25, 17, 18, 19, 5, 20, 1, 30, 31, 32, 42, 43, 44, 45, 46] (by decide +kernel) (by decide +kernel)
set_option maxRecDepth 20000 in
theorem gX2_takes_X2_takesMoreOfFirst : GoodIn wsX2_takes (wsV RX2 45 RX2 yX2_takesMoreOfFirst wsX2_takesMoreOfFirst) := goodIn_app (goodIn_of _ (by decide +kernel)) ggX2_takes_X2_takesMoreOfFirst
set_option maxRecDepth 20000 in
theorem ggX2_takes_X2_takesSecond : GoodIn wsX2_takes wsX2_takesSecond := goodIn_r _ [36, 37, 1, 42, 43, 44, 45, 46] (by decide +kernel) (by decide +kernel)
set_option maxRecDepth 20000 in
theorem gX2_takes_X2_takesSecond : GoodIn wsX2_takes (wsV RX2 48 RX2 yX2_takesSecond wsX2_takesSecond) := goodIn_app (goodIn_of _ (by decide +kernel)) ggX2_takes_X2_takesSecond
set_option maxRecDepth 20000 in
theorem ggX2_takes_X2_takesMoreOfSecond : GoodIn wsX2_takes wsX2_takesMoreOfSecond := goodIn_r _ [41, 37, 30, 31, 5, 32, 42, 43, 44, 45, 46] (by decide +kernel) (by decide +kernel)
set_option maxRecDepth 20000 in
theorem gX2_takes_X2_takesMoreOfSecond : GoodIn wsX2_takes (wsV RX2 51 RX2 yX2_takesMoreOfSecond wsX2_takesMoreOfSecond) := goodIn_app (goodIn_of _ (by decide +kernel)) ggX2_takes_X2_takesMoreOfSecond
theorem dX2_takes_0 : decode cX2_takes 0 = .ok (.iload_n 1, 1) := by decide +kernel
theorem dX2_takes_1 : decode cX2_takes 1 = .ok (.bipush 59, 2) := by decide +kernel
theorem dX2_takes_3 : decode cX2_takes 3 = .ok (.if_icmp .ne 26, 3) := by decide +kernel
theorem dX2_takes_6 : decode cX2_takes 6 = .ok (.aload_n 0, 1) := by decide +kernel
theorem dX2_takes_7 : decode cX2_takes 7 = .ok (.invokevirtual 27, 3) := by decide +kernel
theorem dX2_takes_10 : decode cX2_takes 10 = .ok (.istore_n 2, 1) := by decide +kernel
theorem dX2_takes_11 : decode cX2_takes 11 = .ok (.aload_n 0, 1) := by decide +kernel
theorem dX2_takes_12 : decode cX2_takes 12 = .ok (.iload_n 2, 1) := by decide +kernel
theorem dX2_takes_13 : decode cX2_takes 13 = .ok (.ifCond .eq 7, 3) := by decide +kernel
theorem dX2_takes_16 : decode cX2_takes 16 = .ok (.iconst 0, 1) := by decide +kernel
theorem dX2_takes_17 : decode cX2_takes 17 = .ok (.goto 7, 3) := by decide +kernel
theorem dX2_takes_20 : decode cX2_takes 20 = .ok (.aload_n 0, 1) := by decide +kernel
theorem dX2_takes_21 : decode cX2_takes 21 = .ok (.getfield 11, 3) := by decide +kernel
theorem dX2_takes_24 : decode cX2_takes 24 = .ok (.putfield 11, 3) := by decide +kernel
theorem dX2_takes_27 : decode cX2_takes 27 = .ok (.iload_n 2, 1) := by decide +kernel
theorem dX2_takes_28 : decode cX2_takes 28 = .ok (.ireturn, 1) := by decide +kernel
theorem dX2_takes_29 : decode cX2_takes 29 = .ok (.aload_n 0, 1) := by decide +kernel
theorem dX2_takes_30 : decode cX2_takes 30 = .ok (.getfield 11, 3) := by decide +kernel
theorem dX2_takes_33 : decode cX2_takes 33 = .ok (.tableswitch 88 0 6 #[43, 49, 55, 64, 70, 76, 82], 43) := by decide +kernel
theorem dX2_takes_76 : decode cX2_takes 76 = .ok (.aload_n 0, 1) := by decide +kernel
theorem dX2_takes_77 : decode cX2_takes 77 = .ok (.iload_n 1, 1) := by decide +kernel
theorem dX2_takes_78 : decode cX2_takes 78 = .ok (.invokevirtual 31, 3) := by decide +kernel
theorem dX2_takes_81 : decode cX2_takes 81 = .ok (.ireturn, 1) := by decide +kernel
theorem dX2_takes_82 : decode cX2_takes 82 = .ok (.aload_n 0, 1) := by decide +kernel
theorem dX2_takes_83 : decode cX2_takes 83 = .ok (.iload_n 1, 1) := by decide +kernel
theorem dX2_takes_84 : decode cX2_takes 84 = .ok (.invokevirtual 35, 3) := by decide +kernel
theorem dX2_takes_87 : decode cX2_takes 87 = .ok (.ireturn, 1) := by decide +kernel
theorem dX2_takes_88 : decode cX2_takes 88 = .ok (.aload_n 0, 1) := by decide +kernel
theorem dX2_takes_89 : decode cX2_takes 89 = .ok (.iload_n 1, 1) := by decide +kernel
theorem dX2_takes_90 : decode cX2_takes 90 = .ok (.bipush 58, 2) := by decide +kernel
theorem dX2_takes_92 : decode cX2_takes 92 = .ok (.iconst 3, 1) := by decide +kernel
theorem dX2_takes_93 : decode cX2_takes 93 = .ok (.invokevirtual 38, 3) := by decide +kernel
theorem dX2_takes_96 : decode cX2_takes 96 = .ok (.ireturn, 1) := by decide +kernel
theorem dX2_takes_97 : decode cX2_takes 97 = .ok (.aload_n 0, 1) := by decide +kernel
theorem dX2_takes_98 : decode cX2_takes 98 = .ok (.iload_n 1, 1) := by decide +kernel
theorem dX2_takes_99 : decode cX2_takes 99 = .ok (.invokevirtual 42, 3) := by decide +kernel
theorem dX2_takes_102 : decode cX2_takes 102 = .ok (.ireturn, 1) := by decide +kernel
theorem dX2_takes_103 : decode cX2_takes 103 = .ok (.aload_n 0, 1) := by decide +kernel
theorem dX2_takes_104 : decode cX2_takes 104 = .ok (.iload_n 1, 1) := by decide +kernel
theorem dX2_takes_105 : decode cX2_takes 105 = .ok (.invokevirtual 45, 3) := by decide +kernel
theorem dX2_takes_108 : decode cX2_takes 108 = .ok (.ireturn, 1) := by decide +kernel
theorem dX2_takes_109 : decode cX2_takes 109 = .ok (.aload_n 0, 1) := by decide +kernel
theorem dX2_takes_110 : decode cX2_takes 110 = .ok (.iload_n 1, 1) := by decide +kernel
theorem dX2_takes_111 : decode cX2_takes 111 = .ok (.invokevirtual 48, 3) := by decide +kernel
theorem dX2_takes_114 : decode cX2_takes 114 = .ok (.ireturn, 1) := by decide +kernel
theorem dX2_takes_115 : decode cX2_takes 115 = .ok (.aload_n 0, 1) := by decide +kernel
theorem dX2_takes_116 : decode cX2_takes 116 = .ok (.iload_n 1, 1) := by decide +kernel
theorem dX2_takes_117 : decode cX2_takes 117 = .ok (.invokevirtual 51, 3) := by decide +kernel
theorem dX2_takes_120 : decode cX2_takes 120 = .ok (.ireturn, 1) := by decide +kernel
theorem dX2_takes_121 : decode cX2_takes 121 = .ok (.iconst 0, 1) := by decide +kernel
theorem dX2_takes_122 : decode cX2_takes 122 = .ok (.ireturn, 1) := by decide +kernel
theorem dX2_takesLetter_0 : decode cX2_takesLetter 0 = .ok (.aload_n 0, 1) := by decide +kernel
theorem dX2_takesLetter_1 : decode cX2_takesLetter 1 = .ok (.iload_n 1, 1) := by decide +kernel
theorem dX2_takesLetter_2 : decode cX2_takesLetter 2 = .ok (.putfield 15, 3) := by decide +kernel
theorem dX2_takesLetter_5 : decode cX2_takesLetter 5 = .ok (.iload_n 1, 1) := by decide +kernel
theorem dX2_takesLetter_6 : decode cX2_takesLetter 6 = .ok (.lookupswitch 97 #[(33, 82), (97, 90), (100, 90), (109, 82), (110, 82), (111, 90), (115, 90), (116, 90), (120, 90)], 82) := by decide +kernel
theorem dX2_takesLetter_88 : decode cX2_takesLetter 88 = .ok (.aload_n 0, 1) := by decide +kernel
theorem dX2_takesLetter_89 : decode cX2_takesLetter 89 = .ok (.bipush 7, 2) := by decide +kernel
theorem dX2_takesLetter_91 : decode cX2_takesLetter 91 = .ok (.putfield 11, 3) := by decide +kernel
theorem dX2_takesLetter_94 : decode cX2_takesLetter 94 = .ok (.iconst 1, 1) := by decide +kernel
theorem dX2_takesLetter_95 : decode cX2_takesLetter 95 = .ok (.ireturn, 1) := by decide +kernel
theorem dX2_takesLetter_96 : decode cX2_takesLetter 96 = .ok (.aload_n 0, 1) := by decide +kernel
theorem dX2_takesLetter_97 : decode cX2_takesLetter 97 = .ok (.iconst 1, 1) := by decide +kernel
theorem dX2_takesLetter_98 : decode cX2_takesLetter 98 = .ok (.putfield 11, 3) := by decide +kernel
theorem dX2_takesLetter_101 : decode cX2_takesLetter 101 = .ok (.iconst 1, 1) := by decide +kernel
theorem dX2_takesLetter_102 : decode cX2_takesLetter 102 = .ok (.ireturn, 1) := by decide +kernel
theorem dX2_takesLetter_103 : decode cX2_takesLetter 103 = .ok (.iconst 0, 1) := by decide +kernel
theorem dX2_takesLetter_104 : decode cX2_takesLetter 104 = .ok (.ireturn, 1) := by decide +kernel
theorem dX2_takesFile_0 : decode cX2_takesFile 0 = .ok (.aload_n 0, 1) := by decide +kernel
theorem dX2_takesFile_1 : decode cX2_takesFile 1 = .ok (.iload_n 1, 1) := by decide +kernel
theorem dX2_takesFile_2 : decode cX2_takesFile 2 = .ok (.bipush 48, 2) := by decide +kernel
theorem dX2_takesFile_4 : decode cX2_takesFile 4 = .ok (.isub, 1) := by decide +kernel
theorem dX2_takesFile_5 : decode cX2_takesFile 5 = .ok (.putfield 18, 3) := by decide +kernel
theorem dX2_takesFile_8 : decode cX2_takesFile 8 = .ok (.aload_n 0, 1) := by decide +kernel
theorem dX2_takesFile_9 : decode cX2_takesFile 9 = .ok (.aload_n 0, 1) := by decide +kernel
theorem dX2_takesFile_10 : decode cX2_takesFile 10 = .ok (.getfield 15, 3) := by decide +kernel
theorem dX2_takesFile_13 : decode cX2_takesFile 13 = .ok (.bipush 97, 2) := by decide +kernel
theorem dX2_takesFile_15 : decode cX2_takesFile 15 = .ok (.if_icmp .eq 12, 3) := by decide +kernel
theorem dX2_takesFile_18 : decode cX2_takesFile 18 = .ok (.aload_n 0, 1) := by decide +kernel
theorem dX2_takesFile_19 : decode cX2_takesFile 19 = .ok (.getfield 15, 3) := by decide +kernel
theorem dX2_takesFile_22 : decode cX2_takesFile 22 = .ok (.bipush 116, 2) := by decide +kernel
theorem dX2_takesFile_24 : decode cX2_takesFile 24 = .ok (.if_icmp .ne 7, 3) := by decide +kernel
theorem dX2_takesFile_27 : decode cX2_takesFile 27 = .ok (.iconst 2, 1) := by decide +kernel
theorem dX2_takesFile_28 : decode cX2_takesFile 28 = .ok (.goto 5, 3) := by decide +kernel
theorem dX2_takesFile_31 : decode cX2_takesFile 31 = .ok (.bipush 7, 2) := by decide +kernel
theorem dX2_takesFile_33 : decode cX2_takesFile 33 = .ok (.putfield 11, 3) := by decide +kernel
theorem dX2_takesFile_36 : decode cX2_takesFile 36 = .ok (.aload_n 0, 1) := by decide +kernel
theorem dX2_takesFile_37 : decode cX2_takesFile 37 = .ok (.getfield 18, 3) := by decide +kernel
theorem dX2_takesFile_40 : decode cX2_takesFile 40 = .ok (.ifCond .lt 16, 3) := by decide +kernel
theorem dX2_takesFile_43 : decode cX2_takesFile 43 = .ok (.aload_n 0, 1) := by decide +kernel
theorem dX2_takesFile_44 : decode cX2_takesFile 44 = .ok (.getfield 18, 3) := by decide +kernel
theorem dX2_takesFile_47 : decode cX2_takesFile 47 = .ok (.bipush 8, 2) := by decide +kernel
theorem dX2_takesFile_49 : decode cX2_takesFile 49 = .ok (.if_icmp .ge 7, 3) := by decide +kernel
theorem dX2_takesFile_52 : decode cX2_takesFile 52 = .ok (.iconst 1, 1) := by decide +kernel
theorem dX2_takesFile_53 : decode cX2_takesFile 53 = .ok (.goto 4, 3) := by decide +kernel
theorem dX2_takesFile_56 : decode cX2_takesFile 56 = .ok (.iconst 0, 1) := by decide +kernel
theorem dX2_takesFile_57 : decode cX2_takesFile 57 = .ok (.ireturn, 1) := by decide +kernel
theorem dX2_takesMark_0 : decode cX2_takesMark 0 = .ok (.aload_n 0, 1) := by decide +kernel
theorem dX2_takesMark_1 : decode cX2_takesMark 1 = .ok (.iload_n 3, 1) := by decide +kernel
theorem dX2_takesMark_2 : decode cX2_takesMark 2 = .ok (.putfield 11, 3) := by decide +kernel
theorem dX2_takesMark_5 : decode cX2_takesMark 5 = .ok (.iload_n 1, 1) := by decide +kernel
theorem dX2_takesMark_6 : decode cX2_takesMark 6 = .ok (.iload_n 2, 1) := by decide +kernel
theorem dX2_takesMark_7 : decode cX2_takesMark 7 = .ok (.if_icmp .ne 7, 3) := by decide +kernel
theorem dX2_takesMark_10 : decode cX2_takesMark 10 = .ok (.iconst 1, 1) := by decide +kernel
theorem dX2_takesMark_11 : decode cX2_takesMark 11 = .ok (.goto 4, 3) := by decide +kernel
theorem dX2_takesMark_14 : decode cX2_takesMark 14 = .ok (.iconst 0, 1) := by decide +kernel
theorem dX2_takesMark_15 : decode cX2_takesMark 15 = .ok (.ireturn, 1) := by decide +kernel
theorem dX2_takesFirst_0 : decode cX2_takesFirst 0 = .ok (.aload_n 0, 1) := by decide +kernel
theorem dX2_takesFirst_1 : decode cX2_takesFirst 1 = .ok (.iload_n 1, 1) := by decide +kernel
theorem dX2_takesFirst_2 : decode cX2_takesFirst 2 = .ok (.bipush 48, 2) := by decide +kernel
theorem dX2_takesFirst_4 : decode cX2_takesFirst 4 = .ok (.isub, 1) := by decide +kernel
theorem dX2_takesFirst_5 : decode cX2_takesFirst 5 = .ok (.putfield 21, 3) := by decide +kernel
theorem dX2_takesFirst_8 : decode cX2_takesFirst 8 = .ok (.aload_n 0, 1) := by decide +kernel
theorem dX2_takesFirst_9 : decode cX2_takesFirst 9 = .ok (.iconst 4, 1) := by decide +kernel
theorem dX2_takesFirst_10 : decode cX2_takesFirst 10 = .ok (.putfield 11, 3) := by decide +kernel
theorem dX2_takesFirst_13 : decode cX2_takesFirst 13 = .ok (.aload_n 0, 1) := by decide +kernel
theorem dX2_takesFirst_14 : decode cX2_takesFirst 14 = .ok (.getfield 15, 3) := by decide +kernel
theorem dX2_takesFirst_17 : decode cX2_takesFirst 17 = .ok (.bipush 97, 2) := by decide +kernel
theorem dX2_takesFirst_19 : decode cX2_takesFirst 19 = .ok (.if_icmp .ne 7, 3) := by decide +kernel
theorem dX2_takesFirst_22 : decode cX2_takesFirst 22 = .ok (.iconst 1, 1) := by decide +kernel
theorem dX2_takesFirst_23 : decode cX2_takesFirst 23 = .ok (.goto 4, 3) := by decide +kernel
theorem dX2_takesFirst_26 : decode cX2_takesFirst 26 = .ok (.iconst 0, 1) := by decide +kernel
theorem dX2_takesFirst_27 : decode cX2_takesFirst 27 = .ok (.istore_n 2, 1) := by decide +kernel
theorem dX2_takesFirst_28 : decode cX2_takesFirst 28 = .ok (.aload_n 0, 1) := by decide +kernel
theorem dX2_takesFirst_29 : decode cX2_takesFirst 29 = .ok (.getfield 21, 3) := by decide +kernel
theorem dX2_takesFirst_32 : decode cX2_takesFirst 32 = .ok (.iload_n 2, 1) := by decide +kernel
theorem dX2_takesFirst_33 : decode cX2_takesFirst 33 = .ok (.if_icmp .lt 16, 3) := by decide +kernel
theorem dX2_takesFirst_36 : decode cX2_takesFirst 36 = .ok (.aload_n 0, 1) := by decide +kernel
theorem dX2_takesFirst_37 : decode cX2_takesFirst 37 = .ok (.getfield 21, 3) := by decide +kernel
theorem dX2_takesFirst_40 : decode cX2_takesFirst 40 = .ok (.bipush 9, 2) := by decide +kernel
theorem dX2_takesFirst_42 : decode cX2_takesFirst 42 = .ok (.if_icmp .gt 7, 3) := by decide +kernel
theorem dX2_takesFirst_45 : decode cX2_takesFirst 45 = .ok (.iconst 1, 1) := by decide +kernel
theorem dX2_takesFirst_46 : decode cX2_takesFirst 46 = .ok (.goto 4, 3) := by decide +kernel
theorem dX2_takesFirst_49 : decode cX2_takesFirst 49 = .ok (.iconst 0, 1) := by decide +kernel
theorem dX2_takesFirst_50 : decode cX2_takesFirst 50 = .ok (.ireturn, 1) := by decide +kernel
set_option maxRecDepth 20000 in
theorem ggX2_takesMoreOfFirst_X2_takesMark : GoodIn wsX2_takesMoreOfFirst wsX2_takesMark := goodIn_r _ [7, 8, 12, 13, 14, 15, 16] (by decide +kernel) (by decide +kernel)
set_option maxRecDepth 20000 in
theorem gX2_takesMoreOfFirst_X2_takesMark : GoodIn wsX2_takesMoreOfFirst (wsV RX2 38 RX2 yX2_takesMark wsX2_takesMark) := goodIn_app (goodIn_of _ (by decide +kernel)) ggX2_takesMoreOfFirst_X2_takesMark
set_option maxRecDepth 20000 in
theorem ggX2_takesMoreOfFirst_X2_isMore : GoodIn wsX2_takesMoreOfFirst wsX2_isMore := goodIn_r _ [11] (by decide +kernel) (by decide +kernel)
set_option maxRecDepth 20000 in
theorem gX2_takesMoreOfFirst_X2_isMore : GoodIn wsX2_takesMoreOfFirst (va_wsS RX2 54 yX2_isMore wsX2_isMore) := goodIn_app (goodIn_of _ (by decide +kernel)) ggX2_takesMoreOfFirst_X2_isMore
theorem dX2_takesMoreOfFirst_0 : decode cX2_takesMoreOfFirst 0 = .ok (.aload_n 0, 1) := by decide +kernel
theorem dX2_takesMoreOfFirst_1 : decode cX2_takesMoreOfFirst 1 = .ok (.getfield 15, 3) := by decide +kernel
theorem dX2_takesMoreOfFirst_4 : decode cX2_takesMoreOfFirst 4 = .ok (.bipush 97, 2) := by decide +kernel
theorem dX2_takesMoreOfFirst_6 : decode cX2_takesMoreOfFirst 6 = .ok (.if_icmp .ne 18, 3) := by decide +kernel
theorem dX2_takesMoreOfFirst_9 : decode cX2_takesMoreOfFirst 9 = .ok (.iload_n 1, 1) := by decide +kernel
theorem dX2_takesMoreOfFirst_10 : decode cX2_takesMoreOfFirst 10 = .ok (.bipush 61, 2) := by decide +kernel
theorem dX2_takesMoreOfFirst_12 : decode cX2_takesMoreOfFirst 12 = .ok (.if_icmp .ne 12, 3) := by decide +kernel
theorem dX2_takesMoreOfFirst_15 : decode cX2_takesMoreOfFirst 15 = .ok (.aload_n 0, 1) := by decide +kernel
theorem dX2_takesMoreOfFirst_16 : decode cX2_takesMoreOfFirst 16 = .ok (.iload_n 1, 1) := by decide +kernel
theorem dX2_takesMoreOfFirst_17 : decode cX2_takesMoreOfFirst 17 = .ok (.bipush 61, 2) := by decide +kernel
theorem dX2_takesMoreOfFirst_19 : decode cX2_takesMoreOfFirst 19 = .ok (.iconst 5, 1) := by decide +kernel
theorem dX2_takesMoreOfFirst_20 : decode cX2_takesMoreOfFirst 20 = .ok (.invokevirtual 38, 3) := by decide +kernel
theorem dX2_takesMoreOfFirst_23 : decode cX2_takesMoreOfFirst 23 = .ok (.ireturn, 1) := by decide +kernel
theorem dX2_takesMoreOfFirst_24 : decode cX2_takesMoreOfFirst 24 = .ok (.aload_n 0, 1) := by decide +kernel
theorem dX2_takesMoreOfFirst_25 : decode cX2_takesMoreOfFirst 25 = .ok (.getfield 21, 3) := by decide +kernel
theorem dX2_takesMoreOfFirst_28 : decode cX2_takesMoreOfFirst 28 = .ok (.iload_n 1, 1) := by decide +kernel
theorem dX2_takesMoreOfFirst_29 : decode cX2_takesMoreOfFirst 29 = .ok (.bipush 64, 2) := by decide +kernel
theorem dX2_takesMoreOfFirst_31 : decode cX2_takesMoreOfFirst 31 = .ok (.invokestatic 54, 3) := by decide +kernel
theorem dX2_takesMoreOfFirst_34 : decode cX2_takesMoreOfFirst 34 = .ok (.istore_n 2, 1) := by decide +kernel
theorem dX2_takesMoreOfFirst_35 : decode cX2_takesMoreOfFirst 35 = .ok (.aload_n 0, 1) := by decide +kernel
theorem dX2_takesMoreOfFirst_36 : decode cX2_takesMoreOfFirst 36 = .ok (.bipush 10, 2) := by decide +kernel
theorem dX2_takesMoreOfFirst_38 : decode cX2_takesMoreOfFirst 38 = .ok (.aload_n 0, 1) := by decide +kernel
theorem dX2_takesMoreOfFirst_39 : decode cX2_takesMoreOfFirst 39 = .ok (.getfield 21, 3) := by decide +kernel
theorem dX2_takesMoreOfFirst_42 : decode cX2_takesMoreOfFirst 42 = .ok (.imul, 1) := by decide +kernel
theorem dX2_takesMoreOfFirst_43 : decode cX2_takesMoreOfFirst 43 = .ok (.iload_n 1, 1) := by decide +kernel
theorem dX2_takesMoreOfFirst_44 : decode cX2_takesMoreOfFirst 44 = .ok (.iadd, 1) := by decide +kernel
theorem dX2_takesMoreOfFirst_45 : decode cX2_takesMoreOfFirst 45 = .ok (.bipush 48, 2) := by decide +kernel
theorem dX2_takesMoreOfFirst_47 : decode cX2_takesMoreOfFirst 47 = .ok (.isub, 1) := by decide +kernel
theorem dX2_takesMoreOfFirst_48 : decode cX2_takesMoreOfFirst 48 = .ok (.putfield 21, 3) := by decide +kernel
theorem dX2_takesMoreOfFirst_51 : decode cX2_takesMoreOfFirst 51 = .ok (.iload_n 2, 1) := by decide +kernel
theorem dX2_takesMoreOfFirst_52 : decode cX2_takesMoreOfFirst 52 = .ok (.ireturn, 1) := by decide +kernel
theorem dX2_takesSecond_0 : decode cX2_takesSecond 0 = .ok (.aload_n 0, 1) := by decide +kernel
theorem dX2_takesSecond_1 : decode cX2_takesSecond 1 = .ok (.iload_n 1, 1) := by decide +kernel
theorem dX2_takesSecond_2 : decode cX2_takesSecond 2 = .ok (.bipush 48, 2) := by decide +kernel
theorem dX2_takesSecond_4 : decode cX2_takesSecond 4 = .ok (.isub, 1) := by decide +kernel
theorem dX2_takesSecond_5 : decode cX2_takesSecond 5 = .ok (.putfield 24, 3) := by decide +kernel
theorem dX2_takesSecond_8 : decode cX2_takesSecond 8 = .ok (.aload_n 0, 1) := by decide +kernel
theorem dX2_takesSecond_9 : decode cX2_takesSecond 9 = .ok (.bipush 6, 2) := by decide +kernel
theorem dX2_takesSecond_11 : decode cX2_takesSecond 11 = .ok (.putfield 11, 3) := by decide +kernel
theorem dX2_takesSecond_14 : decode cX2_takesSecond 14 = .ok (.aload_n 0, 1) := by decide +kernel
theorem dX2_takesSecond_15 : decode cX2_takesSecond 15 = .ok (.getfield 24, 3) := by decide +kernel
theorem dX2_takesSecond_18 : decode cX2_takesSecond 18 = .ok (.ifCond .lt 16, 3) := by decide +kernel
theorem dX2_takesSecond_21 : decode cX2_takesSecond 21 = .ok (.aload_n 0, 1) := by decide +kernel
theorem dX2_takesSecond_22 : decode cX2_takesSecond 22 = .ok (.getfield 24, 3) := by decide +kernel
theorem dX2_takesSecond_25 : decode cX2_takesSecond 25 = .ok (.bipush 9, 2) := by decide +kernel
theorem dX2_takesSecond_27 : decode cX2_takesSecond 27 = .ok (.if_icmp .gt 7, 3) := by decide +kernel
theorem dX2_takesSecond_30 : decode cX2_takesSecond 30 = .ok (.iconst 1, 1) := by decide +kernel
theorem dX2_takesSecond_31 : decode cX2_takesSecond 31 = .ok (.goto 4, 3) := by decide +kernel
theorem dX2_takesSecond_34 : decode cX2_takesSecond 34 = .ok (.iconst 0, 1) := by decide +kernel
theorem dX2_takesSecond_35 : decode cX2_takesSecond 35 = .ok (.ireturn, 1) := by decide +kernel
set_option maxRecDepth 20000 in
theorem ggX2_takesMoreOfSecond_X2_isMore : GoodIn wsX2_takesMoreOfSecond wsX2_isMore := goodIn_r _ [5] (by decide +kernel) (by decide +kernel)
set_option maxRecDepth 20000 in
theorem gX2_takesMoreOfSecond_X2_isMore : GoodIn wsX2_takesMoreOfSecond (va_wsS RX2 54 yX2_isMore wsX2_isMore) := goodIn_app (goodIn_of _ (by decide +kernel)) ggX2_takesMoreOfSecond_X2_isMore
theorem dX2_takesMoreOfSecond_0 : decode cX2_takesMoreOfSecond 0 = .ok (.aload_n 0, 1) := by decide +kernel
theorem dX2_takesMoreOfSecond_1 : decode cX2_takesMoreOfSecond 1 = .ok (.getfield 24, 3) := by decide +kernel
theorem dX2_takesMoreOfSecond_4 : decode cX2_takesMoreOfSecond 4 = .ok (.iload_n 1, 1) := by decide +kernel
theorem dX2_takesMoreOfSecond_5 : decode cX2_takesMoreOfSecond 5 = .ok (.bipush 99, 2) := by decide +kernel
theorem dX2_takesMoreOfSecond_7 : decode cX2_takesMoreOfSecond 7 = .ok (.invokestatic 54, 3) := by decide +kernel
theorem dX2_takesMoreOfSecond_10 : decode cX2_takesMoreOfSecond 10 = .ok (.istore_n 2, 1) := by decide +kernel
theorem dX2_takesMoreOfSecond_11 : decode cX2_takesMoreOfSecond 11 = .ok (.aload_n 0, 1) := by decide +kernel
theorem dX2_takesMoreOfSecond_12 : decode cX2_takesMoreOfSecond 12 = .ok (.bipush 10, 2) := by decide +kernel
theorem dX2_takesMoreOfSecond_14 : decode cX2_takesMoreOfSecond 14 = .ok (.aload_n 0, 1) := by decide +kernel
theorem dX2_takesMoreOfSecond_15 : decode cX2_takesMoreOfSecond 15 = .ok (.getfield 24, 3) := by decide +kernel
theorem dX2_takesMoreOfSecond_18 : decode cX2_takesMoreOfSecond 18 = .ok (.imul, 1) := by decide +kernel
theorem dX2_takesMoreOfSecond_19 : decode cX2_takesMoreOfSecond 19 = .ok (.iload_n 1, 1) := by decide +kernel
theorem dX2_takesMoreOfSecond_20 : decode cX2_takesMoreOfSecond 20 = .ok (.iadd, 1) := by decide +kernel
theorem dX2_takesMoreOfSecond_21 : decode cX2_takesMoreOfSecond 21 = .ok (.bipush 48, 2) := by decide +kernel
theorem dX2_takesMoreOfSecond_23 : decode cX2_takesMoreOfSecond 23 = .ok (.isub, 1) := by decide +kernel
theorem dX2_takesMoreOfSecond_24 : decode cX2_takesMoreOfSecond 24 = .ok (.putfield 24, 3) := by decide +kernel
theorem dX2_takesMoreOfSecond_27 : decode cX2_takesMoreOfSecond 27 = .ok (.iload_n 2, 1) := by decide +kernel
theorem dX2_takesMoreOfSecond_28 : decode cX2_takesMoreOfSecond 28 = .ok (.ireturn, 1) := by decide +kernel
theorem dX2_isMore_0 : decode cX2_isMore 0 = .ok (.iload_n 1, 1) := by decide +kernel
theorem dX2_isMore_1 : decode cX2_isMore 1 = .ok (.bipush 48, 2) := by decide +kernel
theorem dX2_isMore_3 : decode cX2_isMore 3 = .ok (.isub, 1) := by decide +kernel
theorem dX2_isMore_4 : decode cX2_isMore 4 = .ok (.istore_n 3, 1) := by decide +kernel
theorem dX2_isMore_5 : decode cX2_isMore 5 = .ok (.iload_n 3, 1) := by decide +kernel
theorem dX2_isMore_6 : decode cX2_isMore 6 = .ok (.ifCond .lt 27, 3) := by decide +kernel
theorem dX2_isMore_9 : decode cX2_isMore 9 = .ok (.iload_n 3, 1) := by decide +kernel
theorem dX2_isMore_10 : decode cX2_isMore 10 = .ok (.bipush 9, 2) := by decide +kernel
theorem dX2_isMore_12 : decode cX2_isMore 12 = .ok (.if_icmp .gt 21, 3) := by decide +kernel
theorem dX2_isMore_15 : decode cX2_isMore 15 = .ok (.iload_n 0, 1) := by decide +kernel
theorem dX2_isMore_16 : decode cX2_isMore 16 = .ok (.ifCond .le 17, 3) := by decide +kernel
theorem dX2_isMore_19 : decode cX2_isMore 19 = .ok (.bipush 10, 2) := by decide +kernel
theorem dX2_isMore_21 : decode cX2_isMore 21 = .ok (.iload_n 0, 1) := by decide +kernel
theorem dX2_isMore_22 : decode cX2_isMore 22 = .ok (.imul, 1) := by decide +kernel
theorem dX2_isMore_23 : decode cX2_isMore 23 = .ok (.iload_n 3, 1) := by decide +kernel
theorem dX2_isMore_24 : decode cX2_isMore 24 = .ok (.iadd, 1) := by decide +kernel
theorem dX2_isMore_25 : decode cX2_isMore 25 = .ok (.iload_n 2, 1) := by decide +kernel
theorem dX2_isMore_26 : decode cX2_isMore 26 = .ok (.if_icmp .gt 7, 3) := by decide +kernel
theorem dX2_isMore_29 : decode cX2_isMore 29 = .ok (.iconst 1, 1) := by decide +kernel
theorem dX2_isMore_30 : decode cX2_isMore 30 = .ok (.goto 4, 3) := by decide +kernel
theorem dX2_isMore_33 : decode cX2_isMore 33 = .ok (.iconst 0, 1) := by decide +kernel
theorem dX2_isMore_34 : decode cX2_isMore 34 = .ok (.ireturn, 1) := by decide +kernel
theorem ok_X2_letter : gOk yX2_letter RX2 0 := by refine ⟨?_, ?_, ?_, ?_⟩ <;> decide +kernel
theorem ok_X2_fileNumber : gOk yX2_fileNumber RX2 0 := by refine ⟨?_, ?_, ?_, ?_⟩ <;> decide +kernel
theorem ok_X2_firstNumber : gOk yX2_firstNumber RX2 0 := by refine ⟨?_, ?_, ?_, ?_⟩ <;> decide +kernel
theorem ok_X2_secondNumber : gOk yX2_secondNumber RX2 0 := by refine ⟨?_, ?_, ?_, ?_⟩ <;> decide +kernel
theorem ok_X2_begin : gOk yX2_begin RX2 0 := by refine ⟨?_, ?_, ?_, ?_⟩ <;> decide +kernel
theorem ok_X2_isWhole : gOk yX2_isWhole RX2 0 := by refine ⟨?_, ?_, ?_, ?_⟩ <;> decide +kernel
theorem ok_X2_takesLetter : gOk yX2_takesLetter RX2 1 := by refine ⟨?_, ?_, ?_, ?_⟩ <;> decide +kernel
theorem ok_X2_takesFile : gOk yX2_takesFile RX2 1 := by refine ⟨?_, ?_, ?_, ?_⟩ <;> decide +kernel
theorem ok_X2_takesMark : gOk yX2_takesMark RX2 3 := by refine ⟨?_, ?_, ?_, ?_⟩ <;> decide +kernel
theorem ok_X2_takesFirst : gOk yX2_takesFirst RX2 1 := by refine ⟨?_, ?_, ?_, ?_⟩ <;> decide +kernel
theorem ok_X2_isMore : gOk yX2_isMore RX2 3 := by refine ⟨?_, ?_, ?_, ?_⟩ <;> decide +kernel
theorem ok_X2_takesMoreOfFirst : gOk yX2_takesMoreOfFirst RX2 1 := by refine ⟨?_, ?_, ?_, ?_⟩ <;> decide +kernel
theorem ok_X2_takesSecond : gOk yX2_takesSecond RX2 1 := by refine ⟨?_, ?_, ?_, ?_⟩ <;> decide +kernel
theorem ok_X2_takesMoreOfSecond : gOk yX2_takesMoreOfSecond RX2 1 := by refine ⟨?_, ?_, ?_, ?_⟩ <;> decide +kernel
theorem ok_X2_takes : gOk yX2_takes RX2 1 := by refine ⟨?_, ?_, ?_, ?_⟩ <;> decide +kernel
abbrev rm_X2_letter : Room := ({ frames := 0, cells := 0, slots := 0, locals := 0 } : Room)
def f_X2_letter (g : Nat → Int32) : Option Int32 := some (g 1)
set_option maxRecDepth 20000 in
theorem in_X2_letter : ∀ w ∈ wsX20, w ∈ wsX2_letter := by decide +kernel
set_option maxRecDepth 20000 in
theorem fl_X2_letter_15 : Cond.fieldLink RX2 15 (TX2 1).1 (TX2 1).2.1 (TX2 1).2.2.1 ∈ wsX2_letter := by decide +kernel
set_option maxHeartbeats 4000000 in
set_option maxRecDepth 100000 in
theorem cn_X2_letter (l : Launch) (Z : gZ) (ad : Nat → Nat) (hI : gInj 1 ad) (g : Nat → Int32) {r : Int32} (h : f_X2_letter g = some r) : gI l yX2_letter wsX2_letter rm_X2_letter Z 1 ad [.ref (ad 0)] (ordE g) r (ordE g) := by
  refine g_entryI (cc := cX2_letter) (maxL := 1) (by decide +kernel) rfl hI (Nat.le_of_ble_eq_true rfl) (fun X C e => ?_)
  unfold f_X2_letter at h
  show GG X Z 1 1 ad (ordE g) 0 [(0, .ref (ad 0))] []
  refine g_aload_n C dX2_letter_0 0 rfl ?_
  refine g_getf (v := .int (g 1)) C 0 (by decide) rfl rfl in_X2_letter 1 (by decide) fl_X2_letter_15 rfl dX2_letter_1 ?_
  obtain rfl := gs1 h
  exact g_iret C e dX2_letter_4
abbrev rm_X2_fileNumber : Room := ({ frames := 0, cells := 0, slots := 0, locals := 0 } : Room)
def f_X2_fileNumber (g : Nat → Int32) : Option Int32 := some (g 2)
set_option maxRecDepth 20000 in
theorem in_X2_fileNumber : ∀ w ∈ wsX20, w ∈ wsX2_fileNumber := by decide +kernel
set_option maxRecDepth 20000 in
theorem fl_X2_fileNumber_18 : Cond.fieldLink RX2 18 (TX2 2).1 (TX2 2).2.1 (TX2 2).2.2.1 ∈ wsX2_fileNumber := by decide +kernel
set_option maxHeartbeats 4000000 in
set_option maxRecDepth 100000 in
theorem cn_X2_fileNumber (l : Launch) (Z : gZ) (ad : Nat → Nat) (hI : gInj 1 ad) (g : Nat → Int32) {r : Int32} (h : f_X2_fileNumber g = some r) : gI l yX2_fileNumber wsX2_fileNumber rm_X2_fileNumber Z 1 ad [.ref (ad 0)] (ordE g) r (ordE g) := by
  refine g_entryI (cc := cX2_fileNumber) (maxL := 1) (by decide +kernel) rfl hI (Nat.le_of_ble_eq_true rfl) (fun X C e => ?_)
  unfold f_X2_fileNumber at h
  show GG X Z 1 1 ad (ordE g) 0 [(0, .ref (ad 0))] []
  refine g_aload_n C dX2_fileNumber_0 0 rfl ?_
  refine g_getf (v := .int (g 2)) C 0 (by decide) rfl rfl in_X2_fileNumber 2 (by decide) fl_X2_fileNumber_18 rfl dX2_fileNumber_1 ?_
  obtain rfl := gs1 h
  exact g_iret C e dX2_fileNumber_4
abbrev rm_X2_firstNumber : Room := ({ frames := 0, cells := 0, slots := 0, locals := 0 } : Room)
def f_X2_firstNumber (g : Nat → Int32) : Option Int32 := some (g 3)
set_option maxRecDepth 20000 in
theorem in_X2_firstNumber : ∀ w ∈ wsX20, w ∈ wsX2_firstNumber := by decide +kernel
set_option maxRecDepth 20000 in
theorem fl_X2_firstNumber_21 : Cond.fieldLink RX2 21 (TX2 3).1 (TX2 3).2.1 (TX2 3).2.2.1 ∈ wsX2_firstNumber := by decide +kernel
set_option maxHeartbeats 4000000 in
set_option maxRecDepth 100000 in
theorem cn_X2_firstNumber (l : Launch) (Z : gZ) (ad : Nat → Nat) (hI : gInj 1 ad) (g : Nat → Int32) {r : Int32} (h : f_X2_firstNumber g = some r) : gI l yX2_firstNumber wsX2_firstNumber rm_X2_firstNumber Z 1 ad [.ref (ad 0)] (ordE g) r (ordE g) := by
  refine g_entryI (cc := cX2_firstNumber) (maxL := 1) (by decide +kernel) rfl hI (Nat.le_of_ble_eq_true rfl) (fun X C e => ?_)
  unfold f_X2_firstNumber at h
  show GG X Z 1 1 ad (ordE g) 0 [(0, .ref (ad 0))] []
  refine g_aload_n C dX2_firstNumber_0 0 rfl ?_
  refine g_getf (v := .int (g 3)) C 0 (by decide) rfl rfl in_X2_firstNumber 3 (by decide) fl_X2_firstNumber_21 rfl dX2_firstNumber_1 ?_
  obtain rfl := gs1 h
  exact g_iret C e dX2_firstNumber_4
abbrev rm_X2_secondNumber : Room := ({ frames := 0, cells := 0, slots := 0, locals := 0 } : Room)
def f_X2_secondNumber (g : Nat → Int32) : Option Int32 := some (g 4)
set_option maxRecDepth 20000 in
theorem in_X2_secondNumber : ∀ w ∈ wsX20, w ∈ wsX2_secondNumber := by decide +kernel
set_option maxRecDepth 20000 in
theorem fl_X2_secondNumber_24 : Cond.fieldLink RX2 24 (TX2 4).1 (TX2 4).2.1 (TX2 4).2.2.1 ∈ wsX2_secondNumber := by decide +kernel
set_option maxHeartbeats 4000000 in
set_option maxRecDepth 100000 in
theorem cn_X2_secondNumber (l : Launch) (Z : gZ) (ad : Nat → Nat) (hI : gInj 1 ad) (g : Nat → Int32) {r : Int32} (h : f_X2_secondNumber g = some r) : gI l yX2_secondNumber wsX2_secondNumber rm_X2_secondNumber Z 1 ad [.ref (ad 0)] (ordE g) r (ordE g) := by
  refine g_entryI (cc := cX2_secondNumber) (maxL := 1) (by decide +kernel) rfl hI (Nat.le_of_ble_eq_true rfl) (fun X C e => ?_)
  unfold f_X2_secondNumber at h
  show GG X Z 1 1 ad (ordE g) 0 [(0, .ref (ad 0))] []
  refine g_aload_n C dX2_secondNumber_0 0 rfl ?_
  refine g_getf (v := .int (g 4)) C 0 (by decide) rfl rfl in_X2_secondNumber 4 (by decide) fl_X2_secondNumber_24 rfl dX2_secondNumber_1 ?_
  obtain rfl := gs1 h
  exact g_iret C e dX2_secondNumber_4
abbrev rm_X2_begin : Room := ({ frames := 0, cells := 0, slots := 0, locals := 0 } : Room)
def f_X2_begin (g : Nat → Int32) : Option ((Nat → Int32)) := glet (upd g 0 0) (fun g1 => some g1)
set_option maxRecDepth 20000 in
theorem in_X2_begin : ∀ w ∈ wsX20, w ∈ wsX2_begin := by decide +kernel
set_option maxRecDepth 20000 in
theorem fl_X2_begin_11 : Cond.fieldLink RX2 11 (TX2 0).1 (TX2 0).2.1 (TX2 0).2.2.1 ∈ wsX2_begin := by decide +kernel
set_option maxHeartbeats 4000000 in
set_option maxRecDepth 100000 in
theorem cn_X2_begin (l : Launch) (Z : gZ) (ad : Nat → Nat) (hI : gInj 1 ad) (g : Nat → Int32) {g' : Nat → Int32} (h : f_X2_begin g = some g') : gV l yX2_begin wsX2_begin rm_X2_begin Z 1 ad [.ref (ad 0)] (ordE g) (ordE g') := by
  refine g_entryV (cc := cX2_begin) (maxL := 1) (by decide +kernel) rfl hI (Nat.le_of_ble_eq_true rfl) (fun X C e => ?_)
  unfold f_X2_begin at h
  show GG X Z 1 1 ad (ordE g) 0 [(0, .ref (ad 0))] []
  refine g_aload_n C dX2_begin_0 0 rfl ?_
  refine g_iconst (v := 0) C dX2_begin_1 (by decide) ?_
  obtain ⟨g1, eg1, h⟩ := gl h
  refine g_putf C 0 (by decide) rfl rfl in_X2_begin tyX2 tyX2_ok nmX2 0 (by decide) fl_X2_begin_11 rfl rfl rfl (Nat.le_of_ble_eq_true rfl) dX2_begin_2 (ordE g1) (by rw [eg1]; exact ordE_g0) ?_
  obtain rfl := gs1 h
  exact g_vret C e dX2_begin_5
abbrev rm_X2_isWhole : Room := ({ frames := 0, cells := 0, slots := 0, locals := 0 } : Room)
def f_X2_isWhole (g : Nat → Int32) : Option Int32 := if (g 0) = 7 then some 1 else if (g 0) = 6 then some 1 else if (g 0) = 4 then if (g 1) = 116 then some 1 else some 0 else some 0
set_option maxRecDepth 20000 in
theorem in_X2_isWhole : ∀ w ∈ wsX20, w ∈ wsX2_isWhole := by decide +kernel
set_option maxRecDepth 20000 in
theorem fl_X2_isWhole_15 : Cond.fieldLink RX2 15 (TX2 1).1 (TX2 1).2.1 (TX2 1).2.2.1 ∈ wsX2_isWhole := by decide +kernel
set_option maxRecDepth 20000 in
theorem fl_X2_isWhole_11 : Cond.fieldLink RX2 11 (TX2 0).1 (TX2 0).2.1 (TX2 0).2.2.1 ∈ wsX2_isWhole := by decide +kernel
set_option maxHeartbeats 4000000 in
set_option maxRecDepth 100000 in
theorem cn_X2_isWhole (l : Launch) (Z : gZ) (ad : Nat → Nat) (hI : gInj 1 ad) (g : Nat → Int32) {r : Int32} (h : f_X2_isWhole g = some r) : gI l yX2_isWhole wsX2_isWhole rm_X2_isWhole Z 1 ad [.ref (ad 0)] (ordE g) r (ordE g) := by
  refine g_entryI (cc := cX2_isWhole) (maxL := 1) (by decide +kernel) rfl hI (Nat.le_of_ble_eq_true rfl) (fun X C e => ?_)
  unfold f_X2_isWhole at h
  show GG X Z 1 1 ad (ordE g) 0 [(0, .ref (ad 0))] []
  refine g_aload_n C dX2_isWhole_0 0 rfl ?_
  refine g_getf (v := .int (g 0)) C 0 (by decide) rfl rfl in_X2_isWhole 0 (by decide) fl_X2_isWhole_11 rfl dX2_isWhole_1 ?_
  refine g_bipush (v := 7) C dX2_isWhole_4 (by decide) ?_
  refine g_icmp_eq (tgt := 35) C dX2_isWhole_6 (by decide) (fun c1 => ?_) (fun c1 => ?_)
  · replace h := gi_pos c1 h
    refine g_iconst (v := 1) C dX2_isWhole_35 (by decide) ?_
    refine g_goto (tgt := 40) C dX2_isWhole_36 (by decide) ?_
    obtain rfl := gs1 h
    exact g_zret C e rfl dX2_isWhole_40
  · replace h := gi_neg c1 h
    refine g_aload_n C dX2_isWhole_9 0 rfl ?_
    refine g_getf (v := .int (g 0)) C 0 (by decide) rfl rfl in_X2_isWhole 0 (by decide) fl_X2_isWhole_11 rfl dX2_isWhole_10 ?_
    refine g_bipush (v := 6) C dX2_isWhole_13 (by decide) ?_
    refine g_icmp_eq (tgt := 35) C dX2_isWhole_15 (by decide) (fun c2 => ?_) (fun c2 => ?_)
    · replace h := gi_pos c2 h
      refine g_iconst (v := 1) C dX2_isWhole_35 (by decide) ?_
      refine g_goto (tgt := 40) C dX2_isWhole_36 (by decide) ?_
      obtain rfl := gs1 h
      exact g_zret C e rfl dX2_isWhole_40
    · replace h := gi_neg c2 h
      refine g_aload_n C dX2_isWhole_18 0 rfl ?_
      refine g_getf (v := .int (g 0)) C 0 (by decide) rfl rfl in_X2_isWhole 0 (by decide) fl_X2_isWhole_11 rfl dX2_isWhole_19 ?_
      refine g_iconst (v := 4) C dX2_isWhole_22 (by decide) ?_
      refine g_icmp_ne (tgt := 39) C dX2_isWhole_23 (by decide) (fun c3 => ?_) (fun c3 => ?_)
      · replace h := gi_neg c3 h
        refine g_iconst (v := 0) C dX2_isWhole_39 (by decide) ?_
        obtain rfl := gs1 h
        exact g_zret C e rfl dX2_isWhole_40
      · replace h := gi_pos c3 h
        refine g_aload_n C dX2_isWhole_26 0 rfl ?_
        refine g_getf (v := .int (g 1)) C 0 (by decide) rfl rfl in_X2_isWhole 1 (by decide) fl_X2_isWhole_15 rfl dX2_isWhole_27 ?_
        refine g_bipush (v := 116) C dX2_isWhole_30 (by decide) ?_
        refine g_icmp_ne (tgt := 39) C dX2_isWhole_32 (by decide) (fun c4 => ?_) (fun c4 => ?_)
        · replace h := gi_neg c4 h
          refine g_iconst (v := 0) C dX2_isWhole_39 (by decide) ?_
          obtain rfl := gs1 h
          exact g_zret C e rfl dX2_isWhole_40
        · replace h := gi_pos c4 h
          refine g_iconst (v := 1) C dX2_isWhole_35 (by decide) ?_
          refine g_goto (tgt := 40) C dX2_isWhole_36 (by decide) ?_
          obtain rfl := gs1 h
          exact g_zret C e rfl dX2_isWhole_40
abbrev rm_X2_takesLetter : Room := ({ frames := 0, cells := 0, slots := 0, locals := 0 } : Room)
def f_X2_takesLetter (g : Nat → Int32) (v1 : Int32) : Option (Int32 × (Nat → Int32)) := glet (upd g 1 v1) (fun g1 => if v1 = 33 then glet (upd g1 0 7) (fun g3 => some (1, g3)) else if v1 = 97 then glet (upd g1 0 1) (fun g5 => some (1, g5)) else if v1 = 100 then glet (upd g1 0 1) (fun g7 => some (1, g7)) else if v1 = 109 then glet (upd g1 0 7) (fun g9 => some (1, g9)) else if v1 = 110 then glet (upd g1 0 7) (fun g11 => some (1, g11)) else if v1 = 111 then glet (upd g1 0 1) (fun g13 => some (1, g13)) else if v1 = 115 then glet (upd g1 0 1) (fun g15 => some (1, g15)) else if v1 = 116 then glet (upd g1 0 1) (fun g17 => some (1, g17)) else if v1 = 120 then glet (upd g1 0 1) (fun g19 => some (1, g19)) else some (0, g1))
set_option maxRecDepth 20000 in
theorem in_X2_takesLetter : ∀ w ∈ wsX20, w ∈ wsX2_takesLetter := by decide +kernel
set_option maxRecDepth 20000 in
theorem fl_X2_takesLetter_11 : Cond.fieldLink RX2 11 (TX2 0).1 (TX2 0).2.1 (TX2 0).2.2.1 ∈ wsX2_takesLetter := by decide +kernel
set_option maxRecDepth 20000 in
theorem fl_X2_takesLetter_15 : Cond.fieldLink RX2 15 (TX2 1).1 (TX2 1).2.1 (TX2 1).2.2.1 ∈ wsX2_takesLetter := by decide +kernel
set_option maxHeartbeats 4000000 in
set_option maxRecDepth 100000 in
theorem cn_X2_takesLetter (l : Launch) (Z : gZ) (ad : Nat → Nat) (hI : gInj 1 ad) (g : Nat → Int32) (v1 : Int32) {r : Int32} {g' : Nat → Int32} (h : f_X2_takesLetter g v1 = some (r, g')) : gI l yX2_takesLetter wsX2_takesLetter rm_X2_takesLetter Z 1 ad [.ref (ad 0), .int v1] (ordE g) r (ordE g') := by
  refine g_entryI (cc := cX2_takesLetter) (maxL := 2) (by decide +kernel) rfl hI (Nat.le_of_ble_eq_true rfl) (fun X C e => ?_)
  unfold f_X2_takesLetter at h
  show GG X Z 2 1 ad (ordE g) 0 [(0, .ref (ad 0)), (1, .int v1)] []
  refine g_aload_n C dX2_takesLetter_0 0 rfl ?_
  refine g_iload_n C dX2_takesLetter_1 1 rfl ?_
  obtain ⟨g1, eg1, h⟩ := gl h
  refine g_putf C 0 (by decide) rfl rfl in_X2_takesLetter tyX2 tyX2_ok nmX2 1 (by decide) fl_X2_takesLetter_15 rfl rfl rfl (Nat.le_of_ble_eq_true rfl) dX2_takesLetter_2 (ordE g1) (by rw [eg1]; exact ordE_g1) ?_
  refine g_iload_n C dX2_takesLetter_5 1 rfl ?_
  by_cases c2 : v1 = 33
  · replace h := gi_pos c2 h
    refine g_lookup (tgt := 88) (off := 82) C dX2_takesLetter_6 (by decide) (by rw [c2] <;> decide) (by decide) ?_
    refine g_aload_n C dX2_takesLetter_88 0 rfl ?_
    refine g_bipush (v := 7) C dX2_takesLetter_89 (by decide) ?_
    obtain ⟨g3, eg3, h⟩ := gl h
    refine g_putf C 0 (by decide) rfl rfl in_X2_takesLetter tyX2 tyX2_ok nmX2 0 (by decide) fl_X2_takesLetter_11 rfl rfl rfl (Nat.le_of_ble_eq_true rfl) dX2_takesLetter_91 (ordE g3) (by rw [eg3]; exact ordE_g0) ?_
    refine g_iconst (v := 1) C dX2_takesLetter_94 (by decide) ?_
    obtain ⟨rfl, rfl⟩ := gs2 h
    exact g_zret C e rfl dX2_takesLetter_95
  · replace h := gi_neg c2 h
    by_cases c4 : v1 = 97
    · replace h := gi_pos c4 h
      refine g_lookup (tgt := 96) (off := 90) C dX2_takesLetter_6 (by decide) (by rw [c4] <;> decide) (by decide) ?_
      refine g_aload_n C dX2_takesLetter_96 0 rfl ?_
      refine g_iconst (v := 1) C dX2_takesLetter_97 (by decide) ?_
      obtain ⟨g5, eg5, h⟩ := gl h
      refine g_putf C 0 (by decide) rfl rfl in_X2_takesLetter tyX2 tyX2_ok nmX2 0 (by decide) fl_X2_takesLetter_11 rfl rfl rfl (Nat.le_of_ble_eq_true rfl) dX2_takesLetter_98 (ordE g5) (by rw [eg5]; exact ordE_g0) ?_
      refine g_iconst (v := 1) C dX2_takesLetter_101 (by decide) ?_
      obtain ⟨rfl, rfl⟩ := gs2 h
      exact g_zret C e rfl dX2_takesLetter_102
    · replace h := gi_neg c4 h
      by_cases c6 : v1 = 100
      · replace h := gi_pos c6 h
        refine g_lookup (tgt := 96) (off := 90) C dX2_takesLetter_6 (by decide) (by rw [c6] <;> decide) (by decide) ?_
        refine g_aload_n C dX2_takesLetter_96 0 rfl ?_
        refine g_iconst (v := 1) C dX2_takesLetter_97 (by decide) ?_
        obtain ⟨g7, eg7, h⟩ := gl h
        refine g_putf C 0 (by decide) rfl rfl in_X2_takesLetter tyX2 tyX2_ok nmX2 0 (by decide) fl_X2_takesLetter_11 rfl rfl rfl (Nat.le_of_ble_eq_true rfl) dX2_takesLetter_98 (ordE g7) (by rw [eg7]; exact ordE_g0) ?_
        refine g_iconst (v := 1) C dX2_takesLetter_101 (by decide) ?_
        obtain ⟨rfl, rfl⟩ := gs2 h
        exact g_zret C e rfl dX2_takesLetter_102
      · replace h := gi_neg c6 h
        by_cases c8 : v1 = 109
        · replace h := gi_pos c8 h
          refine g_lookup (tgt := 88) (off := 82) C dX2_takesLetter_6 (by decide) (by rw [c8] <;> decide) (by decide) ?_
          refine g_aload_n C dX2_takesLetter_88 0 rfl ?_
          refine g_bipush (v := 7) C dX2_takesLetter_89 (by decide) ?_
          obtain ⟨g9, eg9, h⟩ := gl h
          refine g_putf C 0 (by decide) rfl rfl in_X2_takesLetter tyX2 tyX2_ok nmX2 0 (by decide) fl_X2_takesLetter_11 rfl rfl rfl (Nat.le_of_ble_eq_true rfl) dX2_takesLetter_91 (ordE g9) (by rw [eg9]; exact ordE_g0) ?_
          refine g_iconst (v := 1) C dX2_takesLetter_94 (by decide) ?_
          obtain ⟨rfl, rfl⟩ := gs2 h
          exact g_zret C e rfl dX2_takesLetter_95
        · replace h := gi_neg c8 h
          by_cases c10 : v1 = 110
          · replace h := gi_pos c10 h
            refine g_lookup (tgt := 88) (off := 82) C dX2_takesLetter_6 (by decide) (by rw [c10] <;> decide) (by decide) ?_
            refine g_aload_n C dX2_takesLetter_88 0 rfl ?_
            refine g_bipush (v := 7) C dX2_takesLetter_89 (by decide) ?_
            obtain ⟨g11, eg11, h⟩ := gl h
            refine g_putf C 0 (by decide) rfl rfl in_X2_takesLetter tyX2 tyX2_ok nmX2 0 (by decide) fl_X2_takesLetter_11 rfl rfl rfl (Nat.le_of_ble_eq_true rfl) dX2_takesLetter_91 (ordE g11) (by rw [eg11]; exact ordE_g0) ?_
            refine g_iconst (v := 1) C dX2_takesLetter_94 (by decide) ?_
            obtain ⟨rfl, rfl⟩ := gs2 h
            exact g_zret C e rfl dX2_takesLetter_95
          · replace h := gi_neg c10 h
            by_cases c12 : v1 = 111
            · replace h := gi_pos c12 h
              refine g_lookup (tgt := 96) (off := 90) C dX2_takesLetter_6 (by decide) (by rw [c12] <;> decide) (by decide) ?_
              refine g_aload_n C dX2_takesLetter_96 0 rfl ?_
              refine g_iconst (v := 1) C dX2_takesLetter_97 (by decide) ?_
              obtain ⟨g13, eg13, h⟩ := gl h
              refine g_putf C 0 (by decide) rfl rfl in_X2_takesLetter tyX2 tyX2_ok nmX2 0 (by decide) fl_X2_takesLetter_11 rfl rfl rfl (Nat.le_of_ble_eq_true rfl) dX2_takesLetter_98 (ordE g13) (by rw [eg13]; exact ordE_g0) ?_
              refine g_iconst (v := 1) C dX2_takesLetter_101 (by decide) ?_
              obtain ⟨rfl, rfl⟩ := gs2 h
              exact g_zret C e rfl dX2_takesLetter_102
            · replace h := gi_neg c12 h
              by_cases c14 : v1 = 115
              · replace h := gi_pos c14 h
                refine g_lookup (tgt := 96) (off := 90) C dX2_takesLetter_6 (by decide) (by rw [c14] <;> decide) (by decide) ?_
                refine g_aload_n C dX2_takesLetter_96 0 rfl ?_
                refine g_iconst (v := 1) C dX2_takesLetter_97 (by decide) ?_
                obtain ⟨g15, eg15, h⟩ := gl h
                refine g_putf C 0 (by decide) rfl rfl in_X2_takesLetter tyX2 tyX2_ok nmX2 0 (by decide) fl_X2_takesLetter_11 rfl rfl rfl (Nat.le_of_ble_eq_true rfl) dX2_takesLetter_98 (ordE g15) (by rw [eg15]; exact ordE_g0) ?_
                refine g_iconst (v := 1) C dX2_takesLetter_101 (by decide) ?_
                obtain ⟨rfl, rfl⟩ := gs2 h
                exact g_zret C e rfl dX2_takesLetter_102
              · replace h := gi_neg c14 h
                by_cases c16 : v1 = 116
                · replace h := gi_pos c16 h
                  refine g_lookup (tgt := 96) (off := 90) C dX2_takesLetter_6 (by decide) (by rw [c16] <;> decide) (by decide) ?_
                  refine g_aload_n C dX2_takesLetter_96 0 rfl ?_
                  refine g_iconst (v := 1) C dX2_takesLetter_97 (by decide) ?_
                  obtain ⟨g17, eg17, h⟩ := gl h
                  refine g_putf C 0 (by decide) rfl rfl in_X2_takesLetter tyX2 tyX2_ok nmX2 0 (by decide) fl_X2_takesLetter_11 rfl rfl rfl (Nat.le_of_ble_eq_true rfl) dX2_takesLetter_98 (ordE g17) (by rw [eg17]; exact ordE_g0) ?_
                  refine g_iconst (v := 1) C dX2_takesLetter_101 (by decide) ?_
                  obtain ⟨rfl, rfl⟩ := gs2 h
                  exact g_zret C e rfl dX2_takesLetter_102
                · replace h := gi_neg c16 h
                  by_cases c18 : v1 = 120
                  · replace h := gi_pos c18 h
                    refine g_lookup (tgt := 96) (off := 90) C dX2_takesLetter_6 (by decide) (by rw [c18] <;> decide) (by decide) ?_
                    refine g_aload_n C dX2_takesLetter_96 0 rfl ?_
                    refine g_iconst (v := 1) C dX2_takesLetter_97 (by decide) ?_
                    obtain ⟨g19, eg19, h⟩ := gl h
                    refine g_putf C 0 (by decide) rfl rfl in_X2_takesLetter tyX2 tyX2_ok nmX2 0 (by decide) fl_X2_takesLetter_11 rfl rfl rfl (Nat.le_of_ble_eq_true rfl) dX2_takesLetter_98 (ordE g19) (by rw [eg19]; exact ordE_g0) ?_
                    refine g_iconst (v := 1) C dX2_takesLetter_101 (by decide) ?_
                    obtain ⟨rfl, rfl⟩ := gs2 h
                    exact g_zret C e rfl dX2_takesLetter_102
                  · replace h := gi_neg c18 h
                    refine g_lookup (tgt := 103) (off := 97) C dX2_takesLetter_6 (by decide) (by show Op.lookupswitch.offset (List.cons _ _) _ _ = _; rw [lv_osw c2 (by decide), lv_osw c4 (by decide), lv_osw c6 (by decide), lv_osw c8 (by decide), lv_osw c10 (by decide), lv_osw c12 (by decide), lv_osw c14 (by decide), lv_osw c16 (by decide), lv_osw c18 (by decide)] <;> rfl) (by decide) ?_
                    refine g_iconst (v := 0) C dX2_takesLetter_103 (by decide) ?_
                    obtain ⟨rfl, rfl⟩ := gs2 h
                    exact g_zret C e rfl dX2_takesLetter_104
abbrev rm_X2_takesFile : Room := ({ frames := 0, cells := 0, slots := 0, locals := 0 } : Room)
def f_X2_takesFile (g : Nat → Int32) (v1 : Int32) : Option (Int32 × (Nat → Int32)) := glet (upd g 2 (v1 - 48)) (fun g1 => if (g1 1) = 97 then glet (upd g1 0 2) (fun g3 => if (g3 2) < 0 then some (0, g3) else if 8 ≤ (g3 2) then some (0, g3) else some (1, g3)) else if (g1 1) = 116 then glet (upd g1 0 2) (fun g10 => if (g10 2) < 0 then some (0, g10) else if 8 ≤ (g10 2) then some (0, g10) else some (1, g10)) else glet (upd g1 0 7) (fun g7 => if (g7 2) < 0 then some (0, g7) else if 8 ≤ (g7 2) then some (0, g7) else some (1, g7)))
set_option maxRecDepth 20000 in
theorem in_X2_takesFile : ∀ w ∈ wsX20, w ∈ wsX2_takesFile := by decide +kernel
set_option maxRecDepth 20000 in
theorem fl_X2_takesFile_18 : Cond.fieldLink RX2 18 (TX2 2).1 (TX2 2).2.1 (TX2 2).2.2.1 ∈ wsX2_takesFile := by decide +kernel
set_option maxRecDepth 20000 in
theorem fl_X2_takesFile_11 : Cond.fieldLink RX2 11 (TX2 0).1 (TX2 0).2.1 (TX2 0).2.2.1 ∈ wsX2_takesFile := by decide +kernel
set_option maxRecDepth 20000 in
theorem fl_X2_takesFile_15 : Cond.fieldLink RX2 15 (TX2 1).1 (TX2 1).2.1 (TX2 1).2.2.1 ∈ wsX2_takesFile := by decide +kernel
set_option maxHeartbeats 4000000 in
set_option maxRecDepth 100000 in
theorem cn_X2_takesFile (l : Launch) (Z : gZ) (ad : Nat → Nat) (hI : gInj 1 ad) (g : Nat → Int32) (v1 : Int32) {r : Int32} {g' : Nat → Int32} (h : f_X2_takesFile g v1 = some (r, g')) : gI l yX2_takesFile wsX2_takesFile rm_X2_takesFile Z 1 ad [.ref (ad 0), .int v1] (ordE g) r (ordE g') := by
  refine g_entryI (cc := cX2_takesFile) (maxL := 2) (by decide +kernel) rfl hI (Nat.le_of_ble_eq_true rfl) (fun X C e => ?_)
  unfold f_X2_takesFile at h
  show GG X Z 2 1 ad (ordE g) 0 [(0, .ref (ad 0)), (1, .int v1)] []
  refine g_aload_n C dX2_takesFile_0 0 rfl ?_
  refine g_iload_n C dX2_takesFile_1 1 rfl ?_
  refine g_bipush (v := 48) C dX2_takesFile_2 (by decide) ?_
  refine g_isub C dX2_takesFile_4 ?_
  obtain ⟨g1, eg1, h⟩ := gl h
  refine g_putf C 0 (by decide) rfl rfl in_X2_takesFile tyX2 tyX2_ok nmX2 2 (by decide) fl_X2_takesFile_18 rfl rfl rfl (Nat.le_of_ble_eq_true rfl) dX2_takesFile_5 (ordE g1) (by rw [eg1]; exact ordE_g2) ?_
  refine g_aload_n C dX2_takesFile_8 0 rfl ?_
  refine g_aload_n C dX2_takesFile_9 0 rfl ?_
  refine g_getf (v := .int (g1 1)) C 0 (by decide) rfl rfl in_X2_takesFile 1 (by decide) fl_X2_takesFile_15 rfl dX2_takesFile_10 ?_
  refine g_bipush (v := 97) C dX2_takesFile_13 (by decide) ?_
  refine g_icmp_eq (tgt := 27) C dX2_takesFile_15 (by decide) (fun c2 => ?_) (fun c2 => ?_)
  · replace h := gi_pos c2 h
    refine g_iconst (v := 2) C dX2_takesFile_27 (by decide) ?_
    refine g_goto (tgt := 33) C dX2_takesFile_28 (by decide) ?_
    obtain ⟨g3, eg3, h⟩ := gl h
    refine g_putf C 0 (by decide) rfl rfl in_X2_takesFile tyX2 tyX2_ok nmX2 0 (by decide) fl_X2_takesFile_11 rfl rfl rfl (Nat.le_of_ble_eq_true rfl) dX2_takesFile_33 (ordE g3) (by rw [eg3]; exact ordE_g0) ?_
    refine g_aload_n C dX2_takesFile_36 0 rfl ?_
    refine g_getf (v := .int (g3 2)) C 0 (by decide) rfl rfl in_X2_takesFile 2 (by decide) fl_X2_takesFile_18 rfl dX2_takesFile_37 ?_
    refine g_if_lt (tgt := 56) C dX2_takesFile_40 (by decide) (fun c4 => ?_) (fun c4 => ?_)
    · replace h := gi_pos c4 h
      refine g_iconst (v := 0) C dX2_takesFile_56 (by decide) ?_
      obtain ⟨rfl, rfl⟩ := gs2 h
      exact g_zret C e rfl dX2_takesFile_57
    · replace h := gi_neg c4 h
      refine g_aload_n C dX2_takesFile_43 0 rfl ?_
      refine g_getf (v := .int (g3 2)) C 0 (by decide) rfl rfl in_X2_takesFile 2 (by decide) fl_X2_takesFile_18 rfl dX2_takesFile_44 ?_
      refine g_bipush (v := 8) C dX2_takesFile_47 (by decide) ?_
      refine g_icmp_ge (tgt := 56) C dX2_takesFile_49 (by decide) (fun c5 => ?_) (fun c5 => ?_)
      · replace h := gi_pos c5 h
        refine g_iconst (v := 0) C dX2_takesFile_56 (by decide) ?_
        obtain ⟨rfl, rfl⟩ := gs2 h
        exact g_zret C e rfl dX2_takesFile_57
      · replace h := gi_neg c5 h
        refine g_iconst (v := 1) C dX2_takesFile_52 (by decide) ?_
        refine g_goto (tgt := 57) C dX2_takesFile_53 (by decide) ?_
        obtain ⟨rfl, rfl⟩ := gs2 h
        exact g_zret C e rfl dX2_takesFile_57
  · replace h := gi_neg c2 h
    refine g_aload_n C dX2_takesFile_18 0 rfl ?_
    refine g_getf (v := .int (g1 1)) C 0 (by decide) rfl rfl in_X2_takesFile 1 (by decide) fl_X2_takesFile_15 rfl dX2_takesFile_19 ?_
    refine g_bipush (v := 116) C dX2_takesFile_22 (by decide) ?_
    refine g_icmp_ne (tgt := 31) C dX2_takesFile_24 (by decide) (fun c6 => ?_) (fun c6 => ?_)
    · replace h := gi_neg c6 h
      refine g_bipush (v := 7) C dX2_takesFile_31 (by decide) ?_
      obtain ⟨g7, eg7, h⟩ := gl h
      refine g_putf C 0 (by decide) rfl rfl in_X2_takesFile tyX2 tyX2_ok nmX2 0 (by decide) fl_X2_takesFile_11 rfl rfl rfl (Nat.le_of_ble_eq_true rfl) dX2_takesFile_33 (ordE g7) (by rw [eg7]; exact ordE_g0) ?_
      refine g_aload_n C dX2_takesFile_36 0 rfl ?_
      refine g_getf (v := .int (g7 2)) C 0 (by decide) rfl rfl in_X2_takesFile 2 (by decide) fl_X2_takesFile_18 rfl dX2_takesFile_37 ?_
      refine g_if_lt (tgt := 56) C dX2_takesFile_40 (by decide) (fun c8 => ?_) (fun c8 => ?_)
      · replace h := gi_pos c8 h
        refine g_iconst (v := 0) C dX2_takesFile_56 (by decide) ?_
        obtain ⟨rfl, rfl⟩ := gs2 h
        exact g_zret C e rfl dX2_takesFile_57
      · replace h := gi_neg c8 h
        refine g_aload_n C dX2_takesFile_43 0 rfl ?_
        refine g_getf (v := .int (g7 2)) C 0 (by decide) rfl rfl in_X2_takesFile 2 (by decide) fl_X2_takesFile_18 rfl dX2_takesFile_44 ?_
        refine g_bipush (v := 8) C dX2_takesFile_47 (by decide) ?_
        refine g_icmp_ge (tgt := 56) C dX2_takesFile_49 (by decide) (fun c9 => ?_) (fun c9 => ?_)
        · replace h := gi_pos c9 h
          refine g_iconst (v := 0) C dX2_takesFile_56 (by decide) ?_
          obtain ⟨rfl, rfl⟩ := gs2 h
          exact g_zret C e rfl dX2_takesFile_57
        · replace h := gi_neg c9 h
          refine g_iconst (v := 1) C dX2_takesFile_52 (by decide) ?_
          refine g_goto (tgt := 57) C dX2_takesFile_53 (by decide) ?_
          obtain ⟨rfl, rfl⟩ := gs2 h
          exact g_zret C e rfl dX2_takesFile_57
    · replace h := gi_pos c6 h
      refine g_iconst (v := 2) C dX2_takesFile_27 (by decide) ?_
      refine g_goto (tgt := 33) C dX2_takesFile_28 (by decide) ?_
      obtain ⟨g10, eg10, h⟩ := gl h
      refine g_putf C 0 (by decide) rfl rfl in_X2_takesFile tyX2 tyX2_ok nmX2 0 (by decide) fl_X2_takesFile_11 rfl rfl rfl (Nat.le_of_ble_eq_true rfl) dX2_takesFile_33 (ordE g10) (by rw [eg10]; exact ordE_g0) ?_
      refine g_aload_n C dX2_takesFile_36 0 rfl ?_
      refine g_getf (v := .int (g10 2)) C 0 (by decide) rfl rfl in_X2_takesFile 2 (by decide) fl_X2_takesFile_18 rfl dX2_takesFile_37 ?_
      refine g_if_lt (tgt := 56) C dX2_takesFile_40 (by decide) (fun c11 => ?_) (fun c11 => ?_)
      · replace h := gi_pos c11 h
        refine g_iconst (v := 0) C dX2_takesFile_56 (by decide) ?_
        obtain ⟨rfl, rfl⟩ := gs2 h
        exact g_zret C e rfl dX2_takesFile_57
      · replace h := gi_neg c11 h
        refine g_aload_n C dX2_takesFile_43 0 rfl ?_
        refine g_getf (v := .int (g10 2)) C 0 (by decide) rfl rfl in_X2_takesFile 2 (by decide) fl_X2_takesFile_18 rfl dX2_takesFile_44 ?_
        refine g_bipush (v := 8) C dX2_takesFile_47 (by decide) ?_
        refine g_icmp_ge (tgt := 56) C dX2_takesFile_49 (by decide) (fun c12 => ?_) (fun c12 => ?_)
        · replace h := gi_pos c12 h
          refine g_iconst (v := 0) C dX2_takesFile_56 (by decide) ?_
          obtain ⟨rfl, rfl⟩ := gs2 h
          exact g_zret C e rfl dX2_takesFile_57
        · replace h := gi_neg c12 h
          refine g_iconst (v := 1) C dX2_takesFile_52 (by decide) ?_
          refine g_goto (tgt := 57) C dX2_takesFile_53 (by decide) ?_
          obtain ⟨rfl, rfl⟩ := gs2 h
          exact g_zret C e rfl dX2_takesFile_57
abbrev rm_X2_takesMark : Room := ({ frames := 0, cells := 0, slots := 0, locals := 0 } : Room)
def f_X2_takesMark (g : Nat → Int32) (v1 : Int32) (v2 : Int32) (v3 : Int32) : Option (Int32 × (Nat → Int32)) := glet (upd g 0 v3) (fun g1 => if v1 = v2 then some (1, g1) else some (0, g1))
set_option maxRecDepth 20000 in
theorem in_X2_takesMark : ∀ w ∈ wsX20, w ∈ wsX2_takesMark := by decide +kernel
set_option maxRecDepth 20000 in
theorem fl_X2_takesMark_11 : Cond.fieldLink RX2 11 (TX2 0).1 (TX2 0).2.1 (TX2 0).2.2.1 ∈ wsX2_takesMark := by decide +kernel
set_option maxHeartbeats 4000000 in
set_option maxRecDepth 100000 in
theorem cn_X2_takesMark (l : Launch) (Z : gZ) (ad : Nat → Nat) (hI : gInj 1 ad) (g : Nat → Int32) (v1 : Int32) (v2 : Int32) (v3 : Int32) {r : Int32} {g' : Nat → Int32} (h : f_X2_takesMark g v1 v2 v3 = some (r, g')) : gI l yX2_takesMark wsX2_takesMark rm_X2_takesMark Z 1 ad [.ref (ad 0), .int v1, .int v2, .int v3] (ordE g) r (ordE g') := by
  refine g_entryI (cc := cX2_takesMark) (maxL := 4) (by decide +kernel) rfl hI (Nat.le_of_ble_eq_true rfl) (fun X C e => ?_)
  unfold f_X2_takesMark at h
  show GG X Z 4 1 ad (ordE g) 0 [(0, .ref (ad 0)), (1, .int v1), (2, .int v2), (3, .int v3)] []
  refine g_aload_n C dX2_takesMark_0 0 rfl ?_
  refine g_iload_n C dX2_takesMark_1 3 rfl ?_
  obtain ⟨g1, eg1, h⟩ := gl h
  refine g_putf C 0 (by decide) rfl rfl in_X2_takesMark tyX2 tyX2_ok nmX2 0 (by decide) fl_X2_takesMark_11 rfl rfl rfl (Nat.le_of_ble_eq_true rfl) dX2_takesMark_2 (ordE g1) (by rw [eg1]; exact ordE_g0) ?_
  refine g_iload_n C dX2_takesMark_5 1 rfl ?_
  refine g_iload_n C dX2_takesMark_6 2 rfl ?_
  refine g_icmp_ne (tgt := 14) C dX2_takesMark_7 (by decide) (fun c2 => ?_) (fun c2 => ?_)
  · replace h := gi_neg c2 h
    refine g_iconst (v := 0) C dX2_takesMark_14 (by decide) ?_
    obtain ⟨rfl, rfl⟩ := gs2 h
    exact g_zret C e rfl dX2_takesMark_15
  · replace h := gi_pos c2 h
    refine g_iconst (v := 1) C dX2_takesMark_10 (by decide) ?_
    refine g_goto (tgt := 15) C dX2_takesMark_11 (by decide) ?_
    obtain ⟨rfl, rfl⟩ := gs2 h
    exact g_zret C e rfl dX2_takesMark_15
abbrev rm_X2_takesFirst : Room := ({ frames := 0, cells := 0, slots := 0, locals := 0 } : Room)
def f_X2_takesFirst (g : Nat → Int32) (v1 : Int32) : Option (Int32 × (Nat → Int32)) := glet (upd g 3 (v1 - 48)) (fun g1 => glet (upd g1 0 4) (fun g2 => if (g2 1) = 97 then if (g2 3) < 1 then some (0, g2) else if 9 < (g2 3) then some (0, g2) else some (1, g2) else if (g2 3) < 0 then some (0, g2) else if 9 < (g2 3) then some (0, g2) else some (1, g2)))
set_option maxRecDepth 20000 in
theorem in_X2_takesFirst : ∀ w ∈ wsX20, w ∈ wsX2_takesFirst := by decide +kernel
set_option maxRecDepth 20000 in
theorem fl_X2_takesFirst_21 : Cond.fieldLink RX2 21 (TX2 3).1 (TX2 3).2.1 (TX2 3).2.2.1 ∈ wsX2_takesFirst := by decide +kernel
set_option maxRecDepth 20000 in
theorem fl_X2_takesFirst_15 : Cond.fieldLink RX2 15 (TX2 1).1 (TX2 1).2.1 (TX2 1).2.2.1 ∈ wsX2_takesFirst := by decide +kernel
set_option maxRecDepth 20000 in
theorem fl_X2_takesFirst_11 : Cond.fieldLink RX2 11 (TX2 0).1 (TX2 0).2.1 (TX2 0).2.2.1 ∈ wsX2_takesFirst := by decide +kernel
set_option maxHeartbeats 4000000 in
set_option maxRecDepth 100000 in
theorem cn_X2_takesFirst (l : Launch) (Z : gZ) (ad : Nat → Nat) (hI : gInj 1 ad) (g : Nat → Int32) (v1 : Int32) {r : Int32} {g' : Nat → Int32} (h : f_X2_takesFirst g v1 = some (r, g')) : gI l yX2_takesFirst wsX2_takesFirst rm_X2_takesFirst Z 1 ad [.ref (ad 0), .int v1] (ordE g) r (ordE g') := by
  refine g_entryI (cc := cX2_takesFirst) (maxL := 3) (by decide +kernel) rfl hI (Nat.le_of_ble_eq_true rfl) (fun X C e => ?_)
  unfold f_X2_takesFirst at h
  show GG X Z 3 1 ad (ordE g) 0 [(0, .ref (ad 0)), (1, .int v1)] []
  refine g_aload_n C dX2_takesFirst_0 0 rfl ?_
  refine g_iload_n C dX2_takesFirst_1 1 rfl ?_
  refine g_bipush (v := 48) C dX2_takesFirst_2 (by decide) ?_
  refine g_isub C dX2_takesFirst_4 ?_
  obtain ⟨g1, eg1, h⟩ := gl h
  refine g_putf C 0 (by decide) rfl rfl in_X2_takesFirst tyX2 tyX2_ok nmX2 3 (by decide) fl_X2_takesFirst_21 rfl rfl rfl (Nat.le_of_ble_eq_true rfl) dX2_takesFirst_5 (ordE g1) (by rw [eg1]; exact ordE_g3) ?_
  refine g_aload_n C dX2_takesFirst_8 0 rfl ?_
  refine g_iconst (v := 4) C dX2_takesFirst_9 (by decide) ?_
  obtain ⟨g2, eg2, h⟩ := gl h
  refine g_putf C 0 (by decide) rfl rfl in_X2_takesFirst tyX2 tyX2_ok nmX2 0 (by decide) fl_X2_takesFirst_11 rfl rfl rfl (Nat.le_of_ble_eq_true rfl) dX2_takesFirst_10 (ordE g2) (by rw [eg2]; exact ordE_g0) ?_
  refine g_aload_n C dX2_takesFirst_13 0 rfl ?_
  refine g_getf (v := .int (g2 1)) C 0 (by decide) rfl rfl in_X2_takesFirst 1 (by decide) fl_X2_takesFirst_15 rfl dX2_takesFirst_14 ?_
  refine g_bipush (v := 97) C dX2_takesFirst_17 (by decide) ?_
  refine g_icmp_ne (tgt := 26) C dX2_takesFirst_19 (by decide) (fun c3 => ?_) (fun c3 => ?_)
  · replace h := gi_neg c3 h
    refine g_iconst (v := 0) C dX2_takesFirst_26 (by decide) ?_
    refine g_istore_n C dX2_takesFirst_27 (by decide) [(2, .int 0), (0, .ref (ad 0)), (1, .int v1)] rfl ?_
    refine g_aload_n C dX2_takesFirst_28 1 rfl ?_
    refine g_getf (v := .int (g2 3)) C 0 (by decide) rfl rfl in_X2_takesFirst 3 (by decide) fl_X2_takesFirst_21 rfl dX2_takesFirst_29 ?_
    refine g_iload_n C dX2_takesFirst_32 0 rfl ?_
    refine g_icmp_lt (tgt := 49) C dX2_takesFirst_33 (by decide) (fun c4 => ?_) (fun c4 => ?_)
    · replace h := gi_pos c4 h
      refine g_iconst (v := 0) C dX2_takesFirst_49 (by decide) ?_
      obtain ⟨rfl, rfl⟩ := gs2 h
      exact g_zret C e rfl dX2_takesFirst_50
    · replace h := gi_neg c4 h
      refine g_aload_n C dX2_takesFirst_36 1 rfl ?_
      refine g_getf (v := .int (g2 3)) C 0 (by decide) rfl rfl in_X2_takesFirst 3 (by decide) fl_X2_takesFirst_21 rfl dX2_takesFirst_37 ?_
      refine g_bipush (v := 9) C dX2_takesFirst_40 (by decide) ?_
      refine g_icmp_gt (tgt := 49) C dX2_takesFirst_42 (by decide) (fun c5 => ?_) (fun c5 => ?_)
      · replace h := gi_pos c5 h
        refine g_iconst (v := 0) C dX2_takesFirst_49 (by decide) ?_
        obtain ⟨rfl, rfl⟩ := gs2 h
        exact g_zret C e rfl dX2_takesFirst_50
      · replace h := gi_neg c5 h
        refine g_iconst (v := 1) C dX2_takesFirst_45 (by decide) ?_
        refine g_goto (tgt := 50) C dX2_takesFirst_46 (by decide) ?_
        obtain ⟨rfl, rfl⟩ := gs2 h
        exact g_zret C e rfl dX2_takesFirst_50
  · replace h := gi_pos c3 h
    refine g_iconst (v := 1) C dX2_takesFirst_22 (by decide) ?_
    refine g_goto (tgt := 27) C dX2_takesFirst_23 (by decide) ?_
    refine g_istore_n C dX2_takesFirst_27 (by decide) [(2, .int 1), (0, .ref (ad 0)), (1, .int v1)] rfl ?_
    refine g_aload_n C dX2_takesFirst_28 1 rfl ?_
    refine g_getf (v := .int (g2 3)) C 0 (by decide) rfl rfl in_X2_takesFirst 3 (by decide) fl_X2_takesFirst_21 rfl dX2_takesFirst_29 ?_
    refine g_iload_n C dX2_takesFirst_32 0 rfl ?_
    refine g_icmp_lt (tgt := 49) C dX2_takesFirst_33 (by decide) (fun c6 => ?_) (fun c6 => ?_)
    · replace h := gi_pos c6 h
      refine g_iconst (v := 0) C dX2_takesFirst_49 (by decide) ?_
      obtain ⟨rfl, rfl⟩ := gs2 h
      exact g_zret C e rfl dX2_takesFirst_50
    · replace h := gi_neg c6 h
      refine g_aload_n C dX2_takesFirst_36 1 rfl ?_
      refine g_getf (v := .int (g2 3)) C 0 (by decide) rfl rfl in_X2_takesFirst 3 (by decide) fl_X2_takesFirst_21 rfl dX2_takesFirst_37 ?_
      refine g_bipush (v := 9) C dX2_takesFirst_40 (by decide) ?_
      refine g_icmp_gt (tgt := 49) C dX2_takesFirst_42 (by decide) (fun c7 => ?_) (fun c7 => ?_)
      · replace h := gi_pos c7 h
        refine g_iconst (v := 0) C dX2_takesFirst_49 (by decide) ?_
        obtain ⟨rfl, rfl⟩ := gs2 h
        exact g_zret C e rfl dX2_takesFirst_50
      · replace h := gi_neg c7 h
        refine g_iconst (v := 1) C dX2_takesFirst_45 (by decide) ?_
        refine g_goto (tgt := 50) C dX2_takesFirst_46 (by decide) ?_
        obtain ⟨rfl, rfl⟩ := gs2 h
        exact g_zret C e rfl dX2_takesFirst_50
abbrev rm_X2_isMore : Room := ({ frames := 0, cells := 0, slots := 0, locals := 0 } : Room)
def f_X2_isMore (v0 : Int32) (v1 : Int32) (v2 : Int32) : Option Int32 := glet (v1 - 48) (fun x1 => if x1 < 0 then some 0 else if 9 < x1 then some 0 else if v0 ≤ 0 then some 0 else if v2 < ((10 * v0) + x1) then some 0 else some 1)
set_option maxHeartbeats 4000000 in
set_option maxRecDepth 100000 in
theorem cn_X2_isMore (l : Launch) (Z : gZ) (v0 : Int32) (v1 : Int32) (v2 : Int32) {r : Int32} (h : f_X2_isMore v0 v1 v2 = some r) : gI l yX2_isMore wsX2_isMore rm_X2_isMore Z 0 id [.int v0, .int v1, .int v2] g0E r g0E := by
  refine g_entryI (cc := cX2_isMore) (maxL := 4) (by decide +kernel) rfl (fun i j hi => by omega) (Nat.le_of_ble_eq_true rfl) (fun X C e => ?_)
  unfold f_X2_isMore at h
  show GG X Z 4 0 id g0E 0 [(0, .int v0), (1, .int v1), (2, .int v2)] []
  refine g_iload_n C dX2_isMore_0 1 rfl ?_
  refine g_bipush (v := 48) C dX2_isMore_1 (by decide) ?_
  refine g_isub C dX2_isMore_3 ?_
  obtain ⟨x1, ex1, h⟩ := gl h
  refine g_istore_n C dX2_isMore_4 (by decide) [(3, .int x1), (0, .int v0), (1, .int v1), (2, .int v2)] (by rw [ex1]; rfl) ?_
  refine g_iload_n C dX2_isMore_5 0 rfl ?_
  refine g_if_lt (tgt := 33) C dX2_isMore_6 (by decide) (fun c2 => ?_) (fun c2 => ?_)
  · replace h := gi_pos c2 h
    refine g_iconst (v := 0) C dX2_isMore_33 (by decide) ?_
    obtain rfl := gs1 h
    exact g_zret C e rfl dX2_isMore_34
  · replace h := gi_neg c2 h
    refine g_iload_n C dX2_isMore_9 0 rfl ?_
    refine g_bipush (v := 9) C dX2_isMore_10 (by decide) ?_
    refine g_icmp_gt (tgt := 33) C dX2_isMore_12 (by decide) (fun c3 => ?_) (fun c3 => ?_)
    · replace h := gi_pos c3 h
      refine g_iconst (v := 0) C dX2_isMore_33 (by decide) ?_
      obtain rfl := gs1 h
      exact g_zret C e rfl dX2_isMore_34
    · replace h := gi_neg c3 h
      refine g_iload_n C dX2_isMore_15 1 rfl ?_
      refine g_if_le (tgt := 33) C dX2_isMore_16 (by decide) (fun c4 => ?_) (fun c4 => ?_)
      · replace h := gi_pos c4 h
        refine g_iconst (v := 0) C dX2_isMore_33 (by decide) ?_
        obtain rfl := gs1 h
        exact g_zret C e rfl dX2_isMore_34
      · replace h := gi_neg c4 h
        refine g_bipush (v := 10) C dX2_isMore_19 (by decide) ?_
        refine g_iload_n C dX2_isMore_21 1 rfl ?_
        refine g_imul C dX2_isMore_22 ?_
        refine g_iload_n C dX2_isMore_23 0 rfl ?_
        refine g_iadd C dX2_isMore_24 ?_
        refine g_iload_n C dX2_isMore_25 3 rfl ?_
        refine g_icmp_gt (tgt := 33) C dX2_isMore_26 (by decide) (fun c5 => ?_) (fun c5 => ?_)
        · replace h := gi_pos c5 h
          refine g_iconst (v := 0) C dX2_isMore_33 (by decide) ?_
          obtain rfl := gs1 h
          exact g_zret C e rfl dX2_isMore_34
        · replace h := gi_neg c5 h
          refine g_iconst (v := 1) C dX2_isMore_29 (by decide) ?_
          refine g_goto (tgt := 34) C dX2_isMore_30 (by decide) ?_
          obtain rfl := gs1 h
          exact g_zret C e rfl dX2_isMore_34
abbrev rm_X2_takesMoreOfFirst : Room := ({ frames := 1, cells := 0, slots := 0, locals := 23 } : Room)
def f_X2_takesMoreOfFirst (g : Nat → Int32) (v1 : Int32) : Option (Int32 × (Nat → Int32)) := if (g 1) = 97 then if v1 = 61 then gbb2 (f_X2_takesMark g v1 61 5) (fun r9 g10 => if r9 = 0 ∨ r9 = 1 then some (r9, g10) else none) else gb (f_X2_isMore (g 3) v1 64) (fun r6 => glet (upd g 3 (((10 * (g 3)) + v1) - 48)) (fun g7 => if r6 = 0 ∨ r6 = 1 then some (r6, g7) else none)) else gb (f_X2_isMore (g 3) v1 64) (fun r2 => glet (upd g 3 (((10 * (g 3)) + v1) - 48)) (fun g3 => if r2 = 0 ∨ r2 = 1 then some (r2, g3) else none))
set_option maxRecDepth 20000 in
theorem in_X2_takesMoreOfFirst : ∀ w ∈ wsX20, w ∈ wsX2_takesMoreOfFirst := by decide +kernel
set_option maxRecDepth 20000 in
theorem fl_X2_takesMoreOfFirst_21 : Cond.fieldLink RX2 21 (TX2 3).1 (TX2 3).2.1 (TX2 3).2.2.1 ∈ wsX2_takesMoreOfFirst := by decide +kernel
set_option maxRecDepth 20000 in
theorem fl_X2_takesMoreOfFirst_15 : Cond.fieldLink RX2 15 (TX2 1).1 (TX2 1).2.1 (TX2 1).2.2.1 ∈ wsX2_takesMoreOfFirst := by decide +kernel
set_option maxHeartbeats 4000000 in
set_option maxRecDepth 100000 in
theorem cn_X2_takesMoreOfFirst (l : Launch) (Z : gZ) (ad : Nat → Nat) (hI : gInj 1 ad) (g : Nat → Int32) (v1 : Int32) {r : Int32} {g' : Nat → Int32} (h : f_X2_takesMoreOfFirst g v1 = some (r, g')) : gI l yX2_takesMoreOfFirst wsX2_takesMoreOfFirst rm_X2_takesMoreOfFirst Z 1 ad [.ref (ad 0), .int v1] (ordE g) r (ordE g') := by
  refine g_entryI (cc := cX2_takesMoreOfFirst) (maxL := 3) (by decide +kernel) rfl hI (Nat.le_of_ble_eq_true rfl) (fun X C e => ?_)
  unfold f_X2_takesMoreOfFirst at h
  show GG X Z 3 1 ad (ordE g) 0 [(0, .ref (ad 0)), (1, .int v1)] []
  refine g_aload_n C dX2_takesMoreOfFirst_0 0 rfl ?_
  refine g_getf (v := .int (g 1)) C 0 (by decide) rfl rfl in_X2_takesMoreOfFirst 1 (by decide) fl_X2_takesMoreOfFirst_15 rfl dX2_takesMoreOfFirst_1 ?_
  refine g_bipush (v := 97) C dX2_takesMoreOfFirst_4 (by decide) ?_
  refine g_icmp_ne (tgt := 24) C dX2_takesMoreOfFirst_6 (by decide) (fun c1 => ?_) (fun c1 => ?_)
  · replace h := gi_neg c1 h
    refine g_aload_n C dX2_takesMoreOfFirst_24 0 rfl ?_
    refine g_getf (v := .int (g 3)) C 0 (by decide) rfl rfl in_X2_takesMoreOfFirst 3 (by decide) fl_X2_takesMoreOfFirst_21 rfl dX2_takesMoreOfFirst_25 ?_
    refine g_iload_n C dX2_takesMoreOfFirst_28 1 rfl ?_
    refine g_bipush (v := 64) C dX2_takesMoreOfFirst_29 (by decide) ?_
    obtain ⟨r2, er2, h⟩ := gb1 h
    refine g_callSi (rest := []) C gX2_takesMoreOfFirst_X2_isMore rfl ok_X2_isMore ⟨by decide, by decide⟩ ⟨rfl, rfl⟩ (cn_X2_isMore X.2.1 Z (g 3) v1 64 er2) rfl dX2_takesMoreOfFirst_31 rfl (Nat.le_of_ble_eq_true rfl) ?_
    refine g_istore_n C dX2_takesMoreOfFirst_34 (by decide) [(2, .int r2), (0, .ref (ad 0)), (1, .int v1)] rfl ?_
    refine g_aload_n C dX2_takesMoreOfFirst_35 1 rfl ?_
    refine g_bipush (v := 10) C dX2_takesMoreOfFirst_36 (by decide) ?_
    refine g_aload_n C dX2_takesMoreOfFirst_38 1 rfl ?_
    refine g_getf (v := .int (g 3)) C 0 (by decide) rfl rfl in_X2_takesMoreOfFirst 3 (by decide) fl_X2_takesMoreOfFirst_21 rfl dX2_takesMoreOfFirst_39 ?_
    refine g_imul C dX2_takesMoreOfFirst_42 ?_
    refine g_iload_n C dX2_takesMoreOfFirst_43 2 rfl ?_
    refine g_iadd C dX2_takesMoreOfFirst_44 ?_
    refine g_bipush (v := 48) C dX2_takesMoreOfFirst_45 (by decide) ?_
    refine g_isub C dX2_takesMoreOfFirst_47 ?_
    obtain ⟨g3, eg3, h⟩ := gl h
    refine g_putf C 0 (by decide) rfl rfl in_X2_takesMoreOfFirst tyX2 tyX2_ok nmX2 3 (by decide) fl_X2_takesMoreOfFirst_21 rfl rfl rfl (Nat.le_of_ble_eq_true rfl) dX2_takesMoreOfFirst_48 (ordE g3) (by rw [eg3]; exact ordE_g3) ?_
    refine g_iload_n C dX2_takesMoreOfFirst_51 0 rfl ?_
    obtain ⟨b4, h⟩ := gguard h
    obtain ⟨rfl, rfl⟩ := gs2 h
    exact g_zret C e (g_b01 b4) dX2_takesMoreOfFirst_52
  · replace h := gi_pos c1 h
    refine g_iload_n C dX2_takesMoreOfFirst_9 1 rfl ?_
    refine g_bipush (v := 61) C dX2_takesMoreOfFirst_10 (by decide) ?_
    refine g_icmp_ne (tgt := 24) C dX2_takesMoreOfFirst_12 (by decide) (fun c5 => ?_) (fun c5 => ?_)
    · replace h := gi_neg c5 h
      refine g_aload_n C dX2_takesMoreOfFirst_24 0 rfl ?_
      refine g_getf (v := .int (g 3)) C 0 (by decide) rfl rfl in_X2_takesMoreOfFirst 3 (by decide) fl_X2_takesMoreOfFirst_21 rfl dX2_takesMoreOfFirst_25 ?_
      refine g_iload_n C dX2_takesMoreOfFirst_28 1 rfl ?_
      refine g_bipush (v := 64) C dX2_takesMoreOfFirst_29 (by decide) ?_
      obtain ⟨r6, er6, h⟩ := gb1 h
      refine g_callSi (rest := []) C gX2_takesMoreOfFirst_X2_isMore rfl ok_X2_isMore ⟨by decide, by decide⟩ ⟨rfl, rfl⟩ (cn_X2_isMore X.2.1 Z (g 3) v1 64 er6) rfl dX2_takesMoreOfFirst_31 rfl (Nat.le_of_ble_eq_true rfl) ?_
      refine g_istore_n C dX2_takesMoreOfFirst_34 (by decide) [(2, .int r6), (0, .ref (ad 0)), (1, .int v1)] rfl ?_
      refine g_aload_n C dX2_takesMoreOfFirst_35 1 rfl ?_
      refine g_bipush (v := 10) C dX2_takesMoreOfFirst_36 (by decide) ?_
      refine g_aload_n C dX2_takesMoreOfFirst_38 1 rfl ?_
      refine g_getf (v := .int (g 3)) C 0 (by decide) rfl rfl in_X2_takesMoreOfFirst 3 (by decide) fl_X2_takesMoreOfFirst_21 rfl dX2_takesMoreOfFirst_39 ?_
      refine g_imul C dX2_takesMoreOfFirst_42 ?_
      refine g_iload_n C dX2_takesMoreOfFirst_43 2 rfl ?_
      refine g_iadd C dX2_takesMoreOfFirst_44 ?_
      refine g_bipush (v := 48) C dX2_takesMoreOfFirst_45 (by decide) ?_
      refine g_isub C dX2_takesMoreOfFirst_47 ?_
      obtain ⟨g7, eg7, h⟩ := gl h
      refine g_putf C 0 (by decide) rfl rfl in_X2_takesMoreOfFirst tyX2 tyX2_ok nmX2 3 (by decide) fl_X2_takesMoreOfFirst_21 rfl rfl rfl (Nat.le_of_ble_eq_true rfl) dX2_takesMoreOfFirst_48 (ordE g7) (by rw [eg7]; exact ordE_g3) ?_
      refine g_iload_n C dX2_takesMoreOfFirst_51 0 rfl ?_
      obtain ⟨b8, h⟩ := gguard h
      obtain ⟨rfl, rfl⟩ := gs2 h
      exact g_zret C e (g_b01 b8) dX2_takesMoreOfFirst_52
    · replace h := gi_pos c5 h
      refine g_aload_n C dX2_takesMoreOfFirst_15 0 rfl ?_
      refine g_iload_n C dX2_takesMoreOfFirst_16 1 rfl ?_
      refine g_bipush (v := 61) C dX2_takesMoreOfFirst_17 (by decide) ?_
      refine g_iconst (v := 5) C dX2_takesMoreOfFirst_19 (by decide) ?_
      obtain ⟨r9, g10, er9, h⟩ := gb2 h
      refine g_callWi (rest := []) C gX2_takesMoreOfFirst_X2_takesMark rfl ok_X2_takesMark ⟨by decide, by decide⟩ ⟨rfl, rfl⟩ 0 (by decide) rfl rfl (fun hI => cn_X2_takesMark X.2.1 Z ad hI g v1 61 5 er9) rfl dX2_takesMoreOfFirst_20 rfl (Nat.le_of_ble_eq_true rfl) ?_
      obtain ⟨b11, h⟩ := gguard h
      obtain ⟨rfl, rfl⟩ := gs2 h
      exact g_zret C e (g_b01 b11) dX2_takesMoreOfFirst_23
abbrev rm_X2_takesSecond : Room := ({ frames := 0, cells := 0, slots := 0, locals := 0 } : Room)
def f_X2_takesSecond (g : Nat → Int32) (v1 : Int32) : Option (Int32 × (Nat → Int32)) := glet (upd g 4 (v1 - 48)) (fun g1 => glet (upd g1 0 6) (fun g2 => if (g2 4) < 0 then some (0, g2) else if 9 < (g2 4) then some (0, g2) else some (1, g2)))
set_option maxRecDepth 20000 in
theorem in_X2_takesSecond : ∀ w ∈ wsX20, w ∈ wsX2_takesSecond := by decide +kernel
set_option maxRecDepth 20000 in
theorem fl_X2_takesSecond_24 : Cond.fieldLink RX2 24 (TX2 4).1 (TX2 4).2.1 (TX2 4).2.2.1 ∈ wsX2_takesSecond := by decide +kernel
set_option maxRecDepth 20000 in
theorem fl_X2_takesSecond_11 : Cond.fieldLink RX2 11 (TX2 0).1 (TX2 0).2.1 (TX2 0).2.2.1 ∈ wsX2_takesSecond := by decide +kernel
set_option maxHeartbeats 4000000 in
set_option maxRecDepth 100000 in
theorem cn_X2_takesSecond (l : Launch) (Z : gZ) (ad : Nat → Nat) (hI : gInj 1 ad) (g : Nat → Int32) (v1 : Int32) {r : Int32} {g' : Nat → Int32} (h : f_X2_takesSecond g v1 = some (r, g')) : gI l yX2_takesSecond wsX2_takesSecond rm_X2_takesSecond Z 1 ad [.ref (ad 0), .int v1] (ordE g) r (ordE g') := by
  refine g_entryI (cc := cX2_takesSecond) (maxL := 2) (by decide +kernel) rfl hI (Nat.le_of_ble_eq_true rfl) (fun X C e => ?_)
  unfold f_X2_takesSecond at h
  show GG X Z 2 1 ad (ordE g) 0 [(0, .ref (ad 0)), (1, .int v1)] []
  refine g_aload_n C dX2_takesSecond_0 0 rfl ?_
  refine g_iload_n C dX2_takesSecond_1 1 rfl ?_
  refine g_bipush (v := 48) C dX2_takesSecond_2 (by decide) ?_
  refine g_isub C dX2_takesSecond_4 ?_
  obtain ⟨g1, eg1, h⟩ := gl h
  refine g_putf C 0 (by decide) rfl rfl in_X2_takesSecond tyX2 tyX2_ok nmX2 4 (by decide) fl_X2_takesSecond_24 rfl rfl rfl (Nat.le_of_ble_eq_true rfl) dX2_takesSecond_5 (ordE g1) (by rw [eg1]; exact ordE_g4) ?_
  refine g_aload_n C dX2_takesSecond_8 0 rfl ?_
  refine g_bipush (v := 6) C dX2_takesSecond_9 (by decide) ?_
  obtain ⟨g2, eg2, h⟩ := gl h
  refine g_putf C 0 (by decide) rfl rfl in_X2_takesSecond tyX2 tyX2_ok nmX2 0 (by decide) fl_X2_takesSecond_11 rfl rfl rfl (Nat.le_of_ble_eq_true rfl) dX2_takesSecond_11 (ordE g2) (by rw [eg2]; exact ordE_g0) ?_
  refine g_aload_n C dX2_takesSecond_14 0 rfl ?_
  refine g_getf (v := .int (g2 4)) C 0 (by decide) rfl rfl in_X2_takesSecond 4 (by decide) fl_X2_takesSecond_24 rfl dX2_takesSecond_15 ?_
  refine g_if_lt (tgt := 34) C dX2_takesSecond_18 (by decide) (fun c3 => ?_) (fun c3 => ?_)
  · replace h := gi_pos c3 h
    refine g_iconst (v := 0) C dX2_takesSecond_34 (by decide) ?_
    obtain ⟨rfl, rfl⟩ := gs2 h
    exact g_zret C e rfl dX2_takesSecond_35
  · replace h := gi_neg c3 h
    refine g_aload_n C dX2_takesSecond_21 0 rfl ?_
    refine g_getf (v := .int (g2 4)) C 0 (by decide) rfl rfl in_X2_takesSecond 4 (by decide) fl_X2_takesSecond_24 rfl dX2_takesSecond_22 ?_
    refine g_bipush (v := 9) C dX2_takesSecond_25 (by decide) ?_
    refine g_icmp_gt (tgt := 34) C dX2_takesSecond_27 (by decide) (fun c4 => ?_) (fun c4 => ?_)
    · replace h := gi_pos c4 h
      refine g_iconst (v := 0) C dX2_takesSecond_34 (by decide) ?_
      obtain ⟨rfl, rfl⟩ := gs2 h
      exact g_zret C e rfl dX2_takesSecond_35
    · replace h := gi_neg c4 h
      refine g_iconst (v := 1) C dX2_takesSecond_30 (by decide) ?_
      refine g_goto (tgt := 35) C dX2_takesSecond_31 (by decide) ?_
      obtain ⟨rfl, rfl⟩ := gs2 h
      exact g_zret C e rfl dX2_takesSecond_35
abbrev rm_X2_takesMoreOfSecond : Room := ({ frames := 1, cells := 0, slots := 0, locals := 23 } : Room)
def f_X2_takesMoreOfSecond (g : Nat → Int32) (v1 : Int32) : Option (Int32 × (Nat → Int32)) := gb (f_X2_isMore (g 4) v1 99) (fun r1 => glet (upd g 4 (((10 * (g 4)) + v1) - 48)) (fun g2 => if r1 = 0 ∨ r1 = 1 then some (r1, g2) else none))
set_option maxRecDepth 20000 in
theorem in_X2_takesMoreOfSecond : ∀ w ∈ wsX20, w ∈ wsX2_takesMoreOfSecond := by decide +kernel
set_option maxRecDepth 20000 in
theorem fl_X2_takesMoreOfSecond_24 : Cond.fieldLink RX2 24 (TX2 4).1 (TX2 4).2.1 (TX2 4).2.2.1 ∈ wsX2_takesMoreOfSecond := by decide +kernel
set_option maxHeartbeats 4000000 in
set_option maxRecDepth 100000 in
theorem cn_X2_takesMoreOfSecond (l : Launch) (Z : gZ) (ad : Nat → Nat) (hI : gInj 1 ad) (g : Nat → Int32) (v1 : Int32) {r : Int32} {g' : Nat → Int32} (h : f_X2_takesMoreOfSecond g v1 = some (r, g')) : gI l yX2_takesMoreOfSecond wsX2_takesMoreOfSecond rm_X2_takesMoreOfSecond Z 1 ad [.ref (ad 0), .int v1] (ordE g) r (ordE g') := by
  refine g_entryI (cc := cX2_takesMoreOfSecond) (maxL := 3) (by decide +kernel) rfl hI (Nat.le_of_ble_eq_true rfl) (fun X C e => ?_)
  unfold f_X2_takesMoreOfSecond at h
  show GG X Z 3 1 ad (ordE g) 0 [(0, .ref (ad 0)), (1, .int v1)] []
  refine g_aload_n C dX2_takesMoreOfSecond_0 0 rfl ?_
  refine g_getf (v := .int (g 4)) C 0 (by decide) rfl rfl in_X2_takesMoreOfSecond 4 (by decide) fl_X2_takesMoreOfSecond_24 rfl dX2_takesMoreOfSecond_1 ?_
  refine g_iload_n C dX2_takesMoreOfSecond_4 1 rfl ?_
  refine g_bipush (v := 99) C dX2_takesMoreOfSecond_5 (by decide) ?_
  obtain ⟨r1, er1, h⟩ := gb1 h
  refine g_callSi (rest := []) C gX2_takesMoreOfSecond_X2_isMore rfl ok_X2_isMore ⟨by decide, by decide⟩ ⟨rfl, rfl⟩ (cn_X2_isMore X.2.1 Z (g 4) v1 99 er1) rfl dX2_takesMoreOfSecond_7 rfl (Nat.le_of_ble_eq_true rfl) ?_
  refine g_istore_n C dX2_takesMoreOfSecond_10 (by decide) [(2, .int r1), (0, .ref (ad 0)), (1, .int v1)] rfl ?_
  refine g_aload_n C dX2_takesMoreOfSecond_11 1 rfl ?_
  refine g_bipush (v := 10) C dX2_takesMoreOfSecond_12 (by decide) ?_
  refine g_aload_n C dX2_takesMoreOfSecond_14 1 rfl ?_
  refine g_getf (v := .int (g 4)) C 0 (by decide) rfl rfl in_X2_takesMoreOfSecond 4 (by decide) fl_X2_takesMoreOfSecond_24 rfl dX2_takesMoreOfSecond_15 ?_
  refine g_imul C dX2_takesMoreOfSecond_18 ?_
  refine g_iload_n C dX2_takesMoreOfSecond_19 2 rfl ?_
  refine g_iadd C dX2_takesMoreOfSecond_20 ?_
  refine g_bipush (v := 48) C dX2_takesMoreOfSecond_21 (by decide) ?_
  refine g_isub C dX2_takesMoreOfSecond_23 ?_
  obtain ⟨g2, eg2, h⟩ := gl h
  refine g_putf C 0 (by decide) rfl rfl in_X2_takesMoreOfSecond tyX2 tyX2_ok nmX2 4 (by decide) fl_X2_takesMoreOfSecond_24 rfl rfl rfl (Nat.le_of_ble_eq_true rfl) dX2_takesMoreOfSecond_24 (ordE g2) (by rw [eg2]; exact ordE_g4) ?_
  refine g_iload_n C dX2_takesMoreOfSecond_27 0 rfl ?_
  obtain ⟨b3, h⟩ := gguard h
  obtain ⟨rfl, rfl⟩ := gs2 h
  exact g_zret C e (g_b01 b3) dX2_takesMoreOfSecond_28
abbrev rm_X2_takes : Room := ({ frames := 2, cells := 0, slots := 0, locals := 45 } : Room)
def f_X2_takes (g : Nat → Int32) (v1 : Int32) : Option (Int32 × (Nat → Int32)) := if v1 = 59 then gb (f_X2_isWhole g) (fun r30 => if r30 = 0 then glet (upd g 0 (g 0)) (fun g32 => if r30 = 0 ∨ r30 = 1 then some (r30, g32) else none) else glet (upd g 0 0) (fun g34 => if r30 = 0 ∨ r30 = 1 then some (r30, g34) else none)) else if (g 0) = 0 then gbb2 (f_X2_takesLetter g v1) (fun r3 g4 => if r3 = 0 ∨ r3 = 1 then some (r3, g4) else none) else if (g 0) = 1 then gbb2 (f_X2_takesFile g v1) (fun r7 g8 => if r7 = 0 ∨ r7 = 1 then some (r7, g8) else none) else if (g 0) = 2 then gbb2 (f_X2_takesMark g v1 58 3) (fun r11 g12 => if r11 = 0 ∨ r11 = 1 then some (r11, g12) else none) else if (g 0) = 3 then gbb2 (f_X2_takesFirst g v1) (fun r15 g16 => if r15 = 0 ∨ r15 = 1 then some (r15, g16) else none) else if (g 0) = 4 then gbb2 (f_X2_takesMoreOfFirst g v1) (fun r19 g20 => if r19 = 0 ∨ r19 = 1 then some (r19, g20) else none) else if (g 0) = 5 then gbb2 (f_X2_takesSecond g v1) (fun r23 g24 => if r23 = 0 ∨ r23 = 1 then some (r23, g24) else none) else if (g 0) = 6 then gbb2 (f_X2_takesMoreOfSecond g v1) (fun r27 g28 => if r27 = 0 ∨ r27 = 1 then some (r27, g28) else none) else some (0, g)
set_option maxRecDepth 20000 in
theorem in_X2_takes : ∀ w ∈ wsX20, w ∈ wsX2_takes := by decide +kernel
set_option maxRecDepth 20000 in
theorem fl_X2_takes_11 : Cond.fieldLink RX2 11 (TX2 0).1 (TX2 0).2.1 (TX2 0).2.2.1 ∈ wsX2_takes := by decide +kernel
set_option maxHeartbeats 4000000 in
set_option maxRecDepth 100000 in
theorem cn_X2_takes (l : Launch) (Z : gZ) (ad : Nat → Nat) (hI : gInj 1 ad) (g : Nat → Int32) (v1 : Int32) {r : Int32} {g' : Nat → Int32} (h : f_X2_takes g v1 = some (r, g')) : gI l yX2_takes wsX2_takes rm_X2_takes Z 1 ad [.ref (ad 0), .int v1] (ordE g) r (ordE g') := by
  refine g_entryI (cc := cX2_takes) (maxL := 3) (by decide +kernel) rfl hI (Nat.le_of_ble_eq_true rfl) (fun X C e => ?_)
  unfold f_X2_takes at h
  show GG X Z 3 1 ad (ordE g) 0 [(0, .ref (ad 0)), (1, .int v1)] []
  refine g_iload_n C dX2_takes_0 1 rfl ?_
  refine g_bipush (v := 59) C dX2_takes_1 (by decide) ?_
  refine g_icmp_ne (tgt := 29) C dX2_takes_3 (by decide) (fun c1 => ?_) (fun c1 => ?_)
  · replace h := gi_neg c1 h
    refine g_aload_n C dX2_takes_29 0 rfl ?_
    refine g_getf (v := .int (g 0)) C 0 (by decide) rfl rfl in_X2_takes 0 (by decide) fl_X2_takes_11 rfl dX2_takes_30 ?_
    by_cases c2 : (g 0) = 0
    · replace h := gi_pos c2 h
      refine g_tableIn (tgt := 76) (off := 43) C 0 c2 dX2_takes_33 (by decide) (by decide) (by decide) (by decide) ?_
      refine g_aload_n C dX2_takes_76 0 rfl ?_
      refine g_iload_n C dX2_takes_77 1 rfl ?_
      obtain ⟨r3, g4, er3, h⟩ := gb2 h
      refine g_callWi (rest := []) C gX2_takes_X2_takesLetter rfl ok_X2_takesLetter ⟨by decide, by decide⟩ ⟨rfl, rfl⟩ 0 (by decide) rfl rfl (fun hI => cn_X2_takesLetter X.2.1 Z ad hI g v1 er3) rfl dX2_takes_78 rfl (Nat.le_of_ble_eq_true rfl) ?_
      obtain ⟨b5, h⟩ := gguard h
      obtain ⟨rfl, rfl⟩ := gs2 h
      exact g_zret C e (g_b01 b5) dX2_takes_81
    · replace h := gi_neg c2 h
      by_cases c6 : (g 0) = 1
      · replace h := gi_pos c6 h
        refine g_tableIn (tgt := 82) (off := 49) C 1 c6 dX2_takes_33 (by decide) (by decide) (by decide) (by decide) ?_
        refine g_aload_n C dX2_takes_82 0 rfl ?_
        refine g_iload_n C dX2_takes_83 1 rfl ?_
        obtain ⟨r7, g8, er7, h⟩ := gb2 h
        refine g_callWi (rest := []) C gX2_takes_X2_takesFile rfl ok_X2_takesFile ⟨by decide, by decide⟩ ⟨rfl, rfl⟩ 0 (by decide) rfl rfl (fun hI => cn_X2_takesFile X.2.1 Z ad hI g v1 er7) rfl dX2_takes_84 rfl (Nat.le_of_ble_eq_true rfl) ?_
        obtain ⟨b9, h⟩ := gguard h
        obtain ⟨rfl, rfl⟩ := gs2 h
        exact g_zret C e (g_b01 b9) dX2_takes_87
      · replace h := gi_neg c6 h
        by_cases c10 : (g 0) = 2
        · replace h := gi_pos c10 h
          refine g_tableIn (tgt := 88) (off := 55) C 2 c10 dX2_takes_33 (by decide) (by decide) (by decide) (by decide) ?_
          refine g_aload_n C dX2_takes_88 0 rfl ?_
          refine g_iload_n C dX2_takes_89 1 rfl ?_
          refine g_bipush (v := 58) C dX2_takes_90 (by decide) ?_
          refine g_iconst (v := 3) C dX2_takes_92 (by decide) ?_
          obtain ⟨r11, g12, er11, h⟩ := gb2 h
          refine g_callWi (rest := []) C gX2_takes_X2_takesMark rfl ok_X2_takesMark ⟨by decide, by decide⟩ ⟨rfl, rfl⟩ 0 (by decide) rfl rfl (fun hI => cn_X2_takesMark X.2.1 Z ad hI g v1 58 3 er11) rfl dX2_takes_93 rfl (Nat.le_of_ble_eq_true rfl) ?_
          obtain ⟨b13, h⟩ := gguard h
          obtain ⟨rfl, rfl⟩ := gs2 h
          exact g_zret C e (g_b01 b13) dX2_takes_96
        · replace h := gi_neg c10 h
          by_cases c14 : (g 0) = 3
          · replace h := gi_pos c14 h
            refine g_tableIn (tgt := 97) (off := 64) C 3 c14 dX2_takes_33 (by decide) (by decide) (by decide) (by decide) ?_
            refine g_aload_n C dX2_takes_97 0 rfl ?_
            refine g_iload_n C dX2_takes_98 1 rfl ?_
            obtain ⟨r15, g16, er15, h⟩ := gb2 h
            refine g_callWi (rest := []) C gX2_takes_X2_takesFirst rfl ok_X2_takesFirst ⟨by decide, by decide⟩ ⟨rfl, rfl⟩ 0 (by decide) rfl rfl (fun hI => cn_X2_takesFirst X.2.1 Z ad hI g v1 er15) rfl dX2_takes_99 rfl (Nat.le_of_ble_eq_true rfl) ?_
            obtain ⟨b17, h⟩ := gguard h
            obtain ⟨rfl, rfl⟩ := gs2 h
            exact g_zret C e (g_b01 b17) dX2_takes_102
          · replace h := gi_neg c14 h
            by_cases c18 : (g 0) = 4
            · replace h := gi_pos c18 h
              refine g_tableIn (tgt := 103) (off := 70) C 4 c18 dX2_takes_33 (by decide) (by decide) (by decide) (by decide) ?_
              refine g_aload_n C dX2_takes_103 0 rfl ?_
              refine g_iload_n C dX2_takes_104 1 rfl ?_
              obtain ⟨r19, g20, er19, h⟩ := gb2 h
              refine g_callWi (rest := []) C gX2_takes_X2_takesMoreOfFirst rfl ok_X2_takesMoreOfFirst ⟨by decide, by decide⟩ ⟨rfl, rfl⟩ 0 (by decide) rfl rfl (fun hI => cn_X2_takesMoreOfFirst X.2.1 Z ad hI g v1 er19) rfl dX2_takes_105 rfl (Nat.le_of_ble_eq_true rfl) ?_
              obtain ⟨b21, h⟩ := gguard h
              obtain ⟨rfl, rfl⟩ := gs2 h
              exact g_zret C e (g_b01 b21) dX2_takes_108
            · replace h := gi_neg c18 h
              by_cases c22 : (g 0) = 5
              · replace h := gi_pos c22 h
                refine g_tableIn (tgt := 109) (off := 76) C 5 c22 dX2_takes_33 (by decide) (by decide) (by decide) (by decide) ?_
                refine g_aload_n C dX2_takes_109 0 rfl ?_
                refine g_iload_n C dX2_takes_110 1 rfl ?_
                obtain ⟨r23, g24, er23, h⟩ := gb2 h
                refine g_callWi (rest := []) C gX2_takes_X2_takesSecond rfl ok_X2_takesSecond ⟨by decide, by decide⟩ ⟨rfl, rfl⟩ 0 (by decide) rfl rfl (fun hI => cn_X2_takesSecond X.2.1 Z ad hI g v1 er23) rfl dX2_takes_111 rfl (Nat.le_of_ble_eq_true rfl) ?_
                obtain ⟨b25, h⟩ := gguard h
                obtain ⟨rfl, rfl⟩ := gs2 h
                exact g_zret C e (g_b01 b25) dX2_takes_114
              · replace h := gi_neg c22 h
                by_cases c26 : (g 0) = 6
                · replace h := gi_pos c26 h
                  refine g_tableIn (tgt := 115) (off := 82) C 6 c26 dX2_takes_33 (by decide) (by decide) (by decide) (by decide) ?_
                  refine g_aload_n C dX2_takes_115 0 rfl ?_
                  refine g_iload_n C dX2_takes_116 1 rfl ?_
                  obtain ⟨r27, g28, er27, h⟩ := gb2 h
                  refine g_callWi (rest := []) C gX2_takes_X2_takesMoreOfSecond rfl ok_X2_takesMoreOfSecond ⟨by decide, by decide⟩ ⟨rfl, rfl⟩ 0 (by decide) rfl rfl (fun hI => cn_X2_takesMoreOfSecond X.2.1 Z ad hI g v1 er27) rfl dX2_takes_117 rfl (Nat.le_of_ble_eq_true rfl) ?_
                  obtain ⟨b29, h⟩ := gguard h
                  obtain ⟨rfl, rfl⟩ := gs2 h
                  exact g_zret C e (g_b01 b29) dX2_takes_120
                · replace h := gi_neg c26 h
                  refine g_tableOut (tgt := 121) C dX2_takes_33 (by have nc2 := g_ne (a := 0) c2 (by decide); have nc6 := g_ne (a := 1) c6 (by decide); have nc10 := g_ne (a := 2) c10 (by decide); have nc14 := g_ne (a := 3) c14 (by decide); have nc18 := g_ne (a := 4) c18 (by decide); have nc22 := g_ne (a := 5) c22 (by decide); have nc26 := g_ne (a := 6) c26 (by decide); omega) (by decide) ?_
                  refine g_iconst (v := 0) C dX2_takes_121 (by decide) ?_
                  obtain ⟨rfl, rfl⟩ := gs2 h
                  exact g_zret C e rfl dX2_takes_122
  · replace h := gi_pos c1 h
    refine g_aload_n C dX2_takes_6 0 rfl ?_
    obtain ⟨r30, er30, h⟩ := gb1 h
    refine g_callWi (rest := []) C gX2_takes_X2_isWhole rfl ok_X2_isWhole ⟨by decide, by decide⟩ ⟨rfl, rfl⟩ 0 (by decide) rfl rfl (fun hI => cn_X2_isWhole X.2.1 Z ad hI g  er30) rfl dX2_takes_7 rfl (Nat.le_of_ble_eq_true rfl) ?_
    refine g_istore_n C dX2_takes_10 (by decide) [(2, .int r30), (0, .ref (ad 0)), (1, .int v1)] rfl ?_
    refine g_aload_n C dX2_takes_11 1 rfl ?_
    refine g_iload_n C dX2_takes_12 0 rfl ?_
    refine g_if_eq (tgt := 20) C dX2_takes_13 (by decide) (fun c31 => ?_) (fun c31 => ?_)
    · replace h := gi_pos c31 h
      refine g_aload_n C dX2_takes_20 1 rfl ?_
      refine g_getf (v := .int (g 0)) C 0 (by decide) rfl rfl in_X2_takes 0 (by decide) fl_X2_takes_11 rfl dX2_takes_21 ?_
      obtain ⟨g32, eg32, h⟩ := gl h
      refine g_putf C 0 (by decide) rfl rfl in_X2_takes tyX2 tyX2_ok nmX2 0 (by decide) fl_X2_takes_11 rfl rfl rfl (Nat.le_of_ble_eq_true rfl) dX2_takes_24 (ordE g32) (by rw [eg32]; exact ordE_g0) ?_
      refine g_iload_n C dX2_takes_27 0 rfl ?_
      obtain ⟨b33, h⟩ := gguard h
      obtain ⟨rfl, rfl⟩ := gs2 h
      exact g_zret C e (g_b01 b33) dX2_takes_28
    · replace h := gi_neg c31 h
      refine g_iconst (v := 0) C dX2_takes_16 (by decide) ?_
      refine g_goto (tgt := 24) C dX2_takes_17 (by decide) ?_
      obtain ⟨g34, eg34, h⟩ := gl h
      refine g_putf C 0 (by decide) rfl rfl in_X2_takes tyX2 tyX2_ok nmX2 0 (by decide) fl_X2_takes_11 rfl rfl rfl (Nat.le_of_ble_eq_true rfl) dX2_takes_24 (ordE g34) (by rw [eg34]; exact ordE_g0) ?_
      refine g_iload_n C dX2_takes_27 0 rfl ?_
      obtain ⟨b35, h⟩ := gguard h
      obtain ⟨rfl, rfl⟩ := gs2 h
      exact g_zret C e (g_b01 b35) dX2_takes_28
