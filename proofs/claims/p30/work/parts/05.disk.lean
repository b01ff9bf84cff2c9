set_option maxRecDepth 20000 in
theorem ggX0_init_X3_init : GoodIn wsX0_init wsX3_init := goodIn_r _ [19, 20, 2, 3, 21, 22, 23, 24, 25, 26, 31] (by decide +kernel) (by decide +kernel)
set_option maxRecDepth 20000 in
theorem gX0_init_X3_init : GoodIn wsX0_init (wsX3_init) := ggX0_init_X3_init
set_option maxRecDepth 20000 in
theorem ggX0_init_X3_put : GoodIn wsX0_init wsX3_put := goodIn_r _ [30, 26, 31] (by decide +kernel) (by decide +kernel)
set_option maxRecDepth 20000 in
theorem gX0_init_X3_put : GoodIn wsX0_init (wsV RX0 47 RX3 yX3_put wsX3_put) := goodIn_app (goodIn_of _ (by decide +kernel)) ggX0_init_X3_put
theorem dX0_init_0 : decode cX0_init 0 = .ok (.aload_n 0, 1) := by decide +kernel
theorem dX0_init_1 : decode cX0_init 1 = .ok (.invokespecial 3, 3) := by decide +kernel
theorem dX0_init_4 : decode cX0_init 4 = .ok (.aload_n 0, 1) := by decide +kernel
theorem dX0_init_5 : decode cX0_init 5 = .ok (.new 9, 3) := by decide +kernel
theorem dX0_init_8 : decode cX0_init 8 = .ok (.dup, 1) := by decide +kernel
theorem dX0_init_9 : decode cX0_init 9 = .ok (.bipush 64, 2) := by decide +kernel
theorem dX0_init_11 : decode cX0_init 11 = .ok (.iconst 0, 1) := by decide +kernel
theorem dX0_init_12 : decode cX0_init 12 = .ok (.invokespecial 11, 3) := by decide +kernel
theorem dX0_init_15 : decode cX0_init 15 = .ok (.putfield 14, 3) := by decide +kernel
theorem dX0_init_18 : decode cX0_init 18 = .ok (.aload_n 0, 1) := by decide +kernel
theorem dX0_init_19 : decode cX0_init 19 = .ok (.new 9, 3) := by decide +kernel
theorem dX0_init_22 : decode cX0_init 22 = .ok (.dup, 1) := by decide +kernel
theorem dX0_init_23 : decode cX0_init 23 = .ok (.bipush 64, 2) := by decide +kernel
theorem dX0_init_25 : decode cX0_init 25 = .ok (.bipush (-5), 2) := by decide +kernel
theorem dX0_init_27 : decode cX0_init 27 = .ok (.invokespecial 11, 3) := by decide +kernel
theorem dX0_init_30 : decode cX0_init 30 = .ok (.putfield 20, 3) := by decide +kernel
theorem dX0_init_33 : decode cX0_init 33 = .ok (.aload_n 0, 1) := by decide +kernel
theorem dX0_init_34 : decode cX0_init 34 = .ok (.new 9, 3) := by decide +kernel
theorem dX0_init_37 : decode cX0_init 37 = .ok (.dup, 1) := by decide +kernel
theorem dX0_init_38 : decode cX0_init 38 = .ok (.bipush 64, 2) := by decide +kernel
theorem dX0_init_40 : decode cX0_init 40 = .ok (.bipush (-5), 2) := by decide +kernel
theorem dX0_init_42 : decode cX0_init 42 = .ok (.invokespecial 11, 3) := by decide +kernel
theorem dX0_init_45 : decode cX0_init 45 = .ok (.putfield 23, 3) := by decide +kernel
theorem dX0_init_48 : decode cX0_init 48 = .ok (.aload_n 0, 1) := by decide +kernel
theorem dX0_init_49 : decode cX0_init 49 = .ok (.new 9, 3) := by decide +kernel
theorem dX0_init_52 : decode cX0_init 52 = .ok (.dup, 1) := by decide +kernel
theorem dX0_init_53 : decode cX0_init 53 = .ok (.bipush 8, 2) := by decide +kernel
theorem dX0_init_55 : decode cX0_init 55 = .ok (.iconst 0, 1) := by decide +kernel
theorem dX0_init_56 : decode cX0_init 56 = .ok (.invokespecial 11, 3) := by decide +kernel
theorem dX0_init_59 : decode cX0_init 59 = .ok (.putfield 26, 3) := by decide +kernel
theorem dX0_init_62 : decode cX0_init 62 = .ok (.aload_n 0, 1) := by decide +kernel
theorem dX0_init_63 : decode cX0_init 63 = .ok (.new 9, 3) := by decide +kernel
theorem dX0_init_66 : decode cX0_init 66 = .ok (.dup, 1) := by decide +kernel
theorem dX0_init_67 : decode cX0_init 67 = .ok (.bipush 8, 2) := by decide +kernel
theorem dX0_init_69 : decode cX0_init 69 = .ok (.iconst 0, 1) := by decide +kernel
theorem dX0_init_70 : decode cX0_init 70 = .ok (.invokespecial 11, 3) := by decide +kernel
theorem dX0_init_73 : decode cX0_init 73 = .ok (.putfield 29, 3) := by decide +kernel
theorem dX0_init_76 : decode cX0_init 76 = .ok (.aload_n 0, 1) := by decide +kernel
theorem dX0_init_77 : decode cX0_init 77 = .ok (.new 9, 3) := by decide +kernel
theorem dX0_init_80 : decode cX0_init 80 = .ok (.dup, 1) := by decide +kernel
theorem dX0_init_81 : decode cX0_init 81 = .ok (.bipush 8, 2) := by decide +kernel
theorem dX0_init_83 : decode cX0_init 83 = .ok (.iconst 0, 1) := by decide +kernel
theorem dX0_init_84 : decode cX0_init 84 = .ok (.invokespecial 11, 3) := by decide +kernel
theorem dX0_init_87 : decode cX0_init 87 = .ok (.putfield 32, 3) := by decide +kernel
theorem dX0_init_90 : decode cX0_init 90 = .ok (.aload_n 0, 1) := by decide +kernel
theorem dX0_init_91 : decode cX0_init 91 = .ok (.new 9, 3) := by decide +kernel
theorem dX0_init_94 : decode cX0_init 94 = .ok (.dup, 1) := by decide +kernel
theorem dX0_init_95 : decode cX0_init 95 = .ok (.bipush 8, 2) := by decide +kernel
theorem dX0_init_97 : decode cX0_init 97 = .ok (.iconst 0, 1) := by decide +kernel
theorem dX0_init_98 : decode cX0_init 98 = .ok (.invokespecial 11, 3) := by decide +kernel
theorem dX0_init_101 : decode cX0_init 101 = .ok (.putfield 35, 3) := by decide +kernel
theorem dX0_init_104 : decode cX0_init 104 = .ok (.aload_n 0, 1) := by decide +kernel
theorem dX0_init_105 : decode cX0_init 105 = .ok (.new 9, 3) := by decide +kernel
theorem dX0_init_108 : decode cX0_init 108 = .ok (.dup, 1) := by decide +kernel
theorem dX0_init_109 : decode cX0_init 109 = .ok (.bipush 8, 2) := by decide +kernel
theorem dX0_init_111 : decode cX0_init 111 = .ok (.iconst 1, 1) := by decide +kernel
theorem dX0_init_112 : decode cX0_init 112 = .ok (.invokespecial 11, 3) := by decide +kernel
theorem dX0_init_115 : decode cX0_init 115 = .ok (.putfield 38, 3) := by decide +kernel
theorem dX0_init_118 : decode cX0_init 118 = .ok (.aload_n 0, 1) := by decide +kernel
theorem dX0_init_119 : decode cX0_init 119 = .ok (.new 9, 3) := by decide +kernel
theorem dX0_init_122 : decode cX0_init 122 = .ok (.dup, 1) := by decide +kernel
theorem dX0_init_123 : decode cX0_init 123 = .ok (.iconst 2, 1) := by decide +kernel
theorem dX0_init_124 : decode cX0_init 124 = .ok (.iconst 0, 1) := by decide +kernel
theorem dX0_init_125 : decode cX0_init 125 = .ok (.invokespecial 11, 3) := by decide +kernel
theorem dX0_init_128 : decode cX0_init 128 = .ok (.putfield 41, 3) := by decide +kernel
theorem dX0_init_131 : decode cX0_init 131 = .ok (.aload_n 0, 1) := by decide +kernel
theorem dX0_init_132 : decode cX0_init 132 = .ok (.new 9, 3) := by decide +kernel
theorem dX0_init_135 : decode cX0_init 135 = .ok (.dup, 1) := by decide +kernel
theorem dX0_init_136 : decode cX0_init 136 = .ok (.iconst 4, 1) := by decide +kernel
theorem dX0_init_137 : decode cX0_init 137 = .ok (.iconst 0, 1) := by decide +kernel
theorem dX0_init_138 : decode cX0_init 138 = .ok (.invokespecial 11, 3) := by decide +kernel
theorem dX0_init_141 : decode cX0_init 141 = .ok (.putfield 44, 3) := by decide +kernel
theorem dX0_init_144 : decode cX0_init 144 = .ok (.aload_n 0, 1) := by decide +kernel
theorem dX0_init_145 : decode cX0_init 145 = .ok (.getfield 41, 3) := by decide +kernel
theorem dX0_init_148 : decode cX0_init 148 = .ok (.iconst 0, 1) := by decide +kernel
theorem dX0_init_149 : decode cX0_init 149 = .ok (.bipush 8, 2) := by decide +kernel
theorem dX0_init_151 : decode cX0_init 151 = .ok (.invokevirtual 47, 3) := by decide +kernel
theorem dX0_init_154 : decode cX0_init 154 = .ok (.aload_n 0, 1) := by decide +kernel
theorem dX0_init_155 : decode cX0_init 155 = .ok (.getfield 41, 3) := by decide +kernel
theorem dX0_init_158 : decode cX0_init 158 = .ok (.iconst 1, 1) := by decide +kernel
theorem dX0_init_159 : decode cX0_init 159 = .ok (.iconst 0, 1) := by decide +kernel
theorem dX0_init_160 : decode cX0_init 160 = .ok (.invokevirtual 47, 3) := by decide +kernel
theorem dX0_init_163 : decode cX0_init 163 = .ok (.return_, 1) := by decide +kernel
set_option maxRecDepth 20000 in
theorem ggX0_copyFrom_X3_copyFrom : GoodIn wsX0_copyFrom wsX3_copyFrom := goodIn_r _ [15, 16, 17, 18, 19, 14, 20, 31] (by decide +kernel) (by decide +kernel)
set_option maxRecDepth 20000 in
theorem gX0_copyFrom_X3_copyFrom : GoodIn wsX0_copyFrom (wsV RX0 50 RX3 yX3_copyFrom wsX3_copyFrom) := goodIn_app (goodIn_of _ (by decide +kernel)) ggX0_copyFrom_X3_copyFrom
theorem dX0_copyFrom_0 : decode cX0_copyFrom 0 = .ok (.aload_n 0, 1) := by decide +kernel
theorem dX0_copyFrom_1 : decode cX0_copyFrom 1 = .ok (.getfield 14, 3) := by decide +kernel
theorem dX0_copyFrom_4 : decode cX0_copyFrom 4 = .ok (.aload_n 1, 1) := by decide +kernel
theorem dX0_copyFrom_5 : decode cX0_copyFrom 5 = .ok (.getfield 14, 3) := by decide +kernel
theorem dX0_copyFrom_8 : decode cX0_copyFrom 8 = .ok (.invokevirtual 50, 3) := by decide +kernel
theorem dX0_copyFrom_11 : decode cX0_copyFrom 11 = .ok (.aload_n 0, 1) := by decide +kernel
theorem dX0_copyFrom_12 : decode cX0_copyFrom 12 = .ok (.getfield 20, 3) := by decide +kernel
theorem dX0_copyFrom_15 : decode cX0_copyFrom 15 = .ok (.aload_n 1, 1) := by decide +kernel
theorem dX0_copyFrom_16 : decode cX0_copyFrom 16 = .ok (.getfield 20, 3) := by decide +kernel
theorem dX0_copyFrom_19 : decode cX0_copyFrom 19 = .ok (.invokevirtual 50, 3) := by decide +kernel
theorem dX0_copyFrom_22 : decode cX0_copyFrom 22 = .ok (.aload_n 0, 1) := by decide +kernel
theorem dX0_copyFrom_23 : decode cX0_copyFrom 23 = .ok (.getfield 23, 3) := by decide +kernel
theorem dX0_copyFrom_26 : decode cX0_copyFrom 26 = .ok (.aload_n 1, 1) := by decide +kernel
theorem dX0_copyFrom_27 : decode cX0_copyFrom 27 = .ok (.getfield 23, 3) := by decide +kernel
theorem dX0_copyFrom_30 : decode cX0_copyFrom 30 = .ok (.invokevirtual 50, 3) := by decide +kernel
theorem dX0_copyFrom_33 : decode cX0_copyFrom 33 = .ok (.aload_n 0, 1) := by decide +kernel
theorem dX0_copyFrom_34 : decode cX0_copyFrom 34 = .ok (.getfield 26, 3) := by decide +kernel
theorem dX0_copyFrom_37 : decode cX0_copyFrom 37 = .ok (.aload_n 1, 1) := by decide +kernel
theorem dX0_copyFrom_38 : decode cX0_copyFrom 38 = .ok (.getfield 26, 3) := by decide +kernel
theorem dX0_copyFrom_41 : decode cX0_copyFrom 41 = .ok (.invokevirtual 50, 3) := by decide +kernel
theorem dX0_copyFrom_44 : decode cX0_copyFrom 44 = .ok (.aload_n 0, 1) := by decide +kernel
theorem dX0_copyFrom_45 : decode cX0_copyFrom 45 = .ok (.getfield 29, 3) := by decide +kernel
theorem dX0_copyFrom_48 : decode cX0_copyFrom 48 = .ok (.aload_n 1, 1) := by decide +kernel
theorem dX0_copyFrom_49 : decode cX0_copyFrom 49 = .ok (.getfield 29, 3) := by decide +kernel
theorem dX0_copyFrom_52 : decode cX0_copyFrom 52 = .ok (.invokevirtual 50, 3) := by decide +kernel
theorem dX0_copyFrom_55 : decode cX0_copyFrom 55 = .ok (.aload_n 0, 1) := by decide +kernel
theorem dX0_copyFrom_56 : decode cX0_copyFrom 56 = .ok (.getfield 32, 3) := by decide +kernel
theorem dX0_copyFrom_59 : decode cX0_copyFrom 59 = .ok (.aload_n 1, 1) := by decide +kernel
theorem dX0_copyFrom_60 : decode cX0_copyFrom 60 = .ok (.getfield 32, 3) := by decide +kernel
theorem dX0_copyFrom_63 : decode cX0_copyFrom 63 = .ok (.invokevirtual 50, 3) := by decide +kernel
theorem dX0_copyFrom_66 : decode cX0_copyFrom 66 = .ok (.aload_n 0, 1) := by decide +kernel
theorem dX0_copyFrom_67 : decode cX0_copyFrom 67 = .ok (.getfield 35, 3) := by decide +kernel
theorem dX0_copyFrom_70 : decode cX0_copyFrom 70 = .ok (.aload_n 1, 1) := by decide +kernel
theorem dX0_copyFrom_71 : decode cX0_copyFrom 71 = .ok (.getfield 35, 3) := by decide +kernel
theorem dX0_copyFrom_74 : decode cX0_copyFrom 74 = .ok (.invokevirtual 50, 3) := by decide +kernel
theorem dX0_copyFrom_77 : decode cX0_copyFrom 77 = .ok (.aload_n 0, 1) := by decide +kernel
theorem dX0_copyFrom_78 : decode cX0_copyFrom 78 = .ok (.getfield 38, 3) := by decide +kernel
theorem dX0_copyFrom_81 : decode cX0_copyFrom 81 = .ok (.aload_n 1, 1) := by decide +kernel
theorem dX0_copyFrom_82 : decode cX0_copyFrom 82 = .ok (.getfield 38, 3) := by decide +kernel
theorem dX0_copyFrom_85 : decode cX0_copyFrom 85 = .ok (.invokevirtual 50, 3) := by decide +kernel
theorem dX0_copyFrom_88 : decode cX0_copyFrom 88 = .ok (.aload_n 0, 1) := by decide +kernel
theorem dX0_copyFrom_89 : decode cX0_copyFrom 89 = .ok (.getfield 41, 3) := by decide +kernel
theorem dX0_copyFrom_92 : decode cX0_copyFrom 92 = .ok (.aload_n 1, 1) := by decide +kernel
theorem dX0_copyFrom_93 : decode cX0_copyFrom 93 = .ok (.getfield 41, 3) := by decide +kernel
theorem dX0_copyFrom_96 : decode cX0_copyFrom 96 = .ok (.invokevirtual 50, 3) := by decide +kernel
theorem dX0_copyFrom_99 : decode cX0_copyFrom 99 = .ok (.aload_n 0, 1) := by decide +kernel
theorem dX0_copyFrom_100 : decode cX0_copyFrom 100 = .ok (.getfield 44, 3) := by decide +kernel
theorem dX0_copyFrom_103 : decode cX0_copyFrom 103 = .ok (.aload_n 1, 1) := by decide +kernel
theorem dX0_copyFrom_104 : decode cX0_copyFrom 104 = .ok (.getfield 44, 3) := by decide +kernel
theorem dX0_copyFrom_107 : decode cX0_copyFrom 107 = .ok (.invokevirtual 50, 3) := by decide +kernel
theorem dX0_copyFrom_110 : decode cX0_copyFrom 110 = .ok (.return_, 1) := by decide +kernel
set_option maxRecDepth 20000 in
theorem ggX0_createFile_X3_holds : GoodIn wsX0_createFile wsX3_holds := goodIn_r _ [10, 11, 26] (by decide +kernel) (by decide +kernel)
set_option maxRecDepth 20000 in
theorem gX0_createFile_X3_holds : GoodIn wsX0_createFile (wsV RX0 54 RX3 yX3_holds wsX3_holds) := goodIn_app (goodIn_of _ (by decide +kernel)) ggX0_createFile_X3_holds
set_option maxRecDepth 20000 in
theorem ggX0_createFile_X3_put : GoodIn wsX0_createFile wsX3_put := goodIn_r _ [15, 11, 26] (by decide +kernel) (by decide +kernel)
set_option maxRecDepth 20000 in
theorem gX0_createFile_X3_put : GoodIn wsX0_createFile (wsV RX0 47 RX3 yX3_put wsX3_put) := goodIn_app (goodIn_of _ (by decide +kernel)) ggX0_createFile_X3_put
theorem dX0_createFile_0 : decode cX0_createFile 0 = .ok (.iconst 0, 1) := by decide +kernel
theorem dX0_createFile_1 : decode cX0_createFile 1 = .ok (.istore_n 1, 1) := by decide +kernel
theorem dX0_createFile_2 : decode cX0_createFile 2 = .ok (.iload_n 1, 1) := by decide +kernel
theorem dX0_createFile_3 : decode cX0_createFile 3 = .ok (.bipush 8, 2) := by decide +kernel
theorem dX0_createFile_5 : decode cX0_createFile 5 = .ok (.if_icmp .ge 68, 3) := by decide +kernel
theorem dX0_createFile_8 : decode cX0_createFile 8 = .ok (.aload_n 0, 1) := by decide +kernel
theorem dX0_createFile_9 : decode cX0_createFile 9 = .ok (.getfield 26, 3) := by decide +kernel
theorem dX0_createFile_12 : decode cX0_createFile 12 = .ok (.iload_n 1, 1) := by decide +kernel
theorem dX0_createFile_13 : decode cX0_createFile 13 = .ok (.iconst 0, 1) := by decide +kernel
theorem dX0_createFile_14 : decode cX0_createFile 14 = .ok (.invokevirtual 54, 3) := by decide +kernel
theorem dX0_createFile_17 : decode cX0_createFile 17 = .ok (.ifCond .eq 50, 3) := by decide +kernel
theorem dX0_createFile_20 : decode cX0_createFile 20 = .ok (.aload_n 0, 1) := by decide +kernel
theorem dX0_createFile_21 : decode cX0_createFile 21 = .ok (.getfield 26, 3) := by decide +kernel
theorem dX0_createFile_24 : decode cX0_createFile 24 = .ok (.iload_n 1, 1) := by decide +kernel
theorem dX0_createFile_25 : decode cX0_createFile 25 = .ok (.iconst 1, 1) := by decide +kernel
theorem dX0_createFile_26 : decode cX0_createFile 26 = .ok (.invokevirtual 47, 3) := by decide +kernel
theorem dX0_createFile_29 : decode cX0_createFile 29 = .ok (.aload_n 0, 1) := by decide +kernel
theorem dX0_createFile_30 : decode cX0_createFile 30 = .ok (.getfield 29, 3) := by decide +kernel
theorem dX0_createFile_33 : decode cX0_createFile 33 = .ok (.iload_n 1, 1) := by decide +kernel
theorem dX0_createFile_34 : decode cX0_createFile 34 = .ok (.iconst 0, 1) := by decide +kernel
theorem dX0_createFile_35 : decode cX0_createFile 35 = .ok (.invokevirtual 47, 3) := by decide +kernel
theorem dX0_createFile_38 : decode cX0_createFile 38 = .ok (.aload_n 0, 1) := by decide +kernel
theorem dX0_createFile_39 : decode cX0_createFile 39 = .ok (.getfield 32, 3) := by decide +kernel
theorem dX0_createFile_42 : decode cX0_createFile 42 = .ok (.iload_n 1, 1) := by decide +kernel
theorem dX0_createFile_43 : decode cX0_createFile 43 = .ok (.iconst 0, 1) := by decide +kernel
theorem dX0_createFile_44 : decode cX0_createFile 44 = .ok (.invokevirtual 47, 3) := by decide +kernel
theorem dX0_createFile_47 : decode cX0_createFile 47 = .ok (.aload_n 0, 1) := by decide +kernel
theorem dX0_createFile_48 : decode cX0_createFile 48 = .ok (.getfield 35, 3) := by decide +kernel
theorem dX0_createFile_51 : decode cX0_createFile 51 = .ok (.iload_n 1, 1) := by decide +kernel
theorem dX0_createFile_52 : decode cX0_createFile 52 = .ok (.iconst 0, 1) := by decide +kernel
theorem dX0_createFile_53 : decode cX0_createFile 53 = .ok (.invokevirtual 47, 3) := by decide +kernel
theorem dX0_createFile_56 : decode cX0_createFile 56 = .ok (.aload_n 0, 1) := by decide +kernel
theorem dX0_createFile_57 : decode cX0_createFile 57 = .ok (.getfield 38, 3) := by decide +kernel
theorem dX0_createFile_60 : decode cX0_createFile 60 = .ok (.iload_n 1, 1) := by decide +kernel
theorem dX0_createFile_61 : decode cX0_createFile 61 = .ok (.iconst 1, 1) := by decide +kernel
theorem dX0_createFile_62 : decode cX0_createFile 62 = .ok (.invokevirtual 47, 3) := by decide +kernel
theorem dX0_createFile_65 : decode cX0_createFile 65 = .ok (.iload_n 1, 1) := by decide +kernel
theorem dX0_createFile_66 : decode cX0_createFile 66 = .ok (.ireturn, 1) := by decide +kernel
theorem dX0_createFile_67 : decode cX0_createFile 67 = .ok (.iinc 1 1, 3) := by decide +kernel
theorem dX0_createFile_70 : decode cX0_createFile 70 = .ok (.goto (-68), 3) := by decide +kernel
theorem dX0_createFile_73 : decode cX0_createFile 73 = .ok (.bipush (-3), 2) := by decide +kernel
theorem dX0_createFile_75 : decode cX0_createFile 75 = .ok (.ireturn, 1) := by decide +kernel
set_option maxRecDepth 20000 in
theorem ggX0_openFile_X0_isFile : GoodIn wsX0_openFile wsX0_isFile := goodIn_r _ [6, 1, 7, 8, 9, 10, 11, 12, 25, 26, 27, 28, 29, 30, 31, 32, 33, 34, 35] (by decide +kernel) (by decide +kernel)
set_option maxRecDepth 20000 in
theorem gX0_openFile_X0_isFile : GoodIn wsX0_openFile (wsV RX0 58 RX0 yX0_isFile wsX0_isFile) := goodIn_app (goodIn_of _ (by decide +kernel)) ggX0_openFile_X0_isFile
set_option maxRecDepth 20000 in
theorem ggX0_openFile_X0_isOpen : GoodIn wsX0_openFile wsX0_isOpen := goodIn_r _ [16, 1, 7, 8, 9, 10, 11, 12, 25, 26, 27, 28, 29, 30, 31, 32, 33, 34, 35] (by decide +kernel) (by decide +kernel)
set_option maxRecDepth 20000 in
theorem gX0_openFile_X0_isOpen : GoodIn wsX0_openFile (wsV RX0 62 RX0 yX0_isOpen wsX0_isOpen) := goodIn_app (goodIn_of _ (by decide +kernel)) ggX0_openFile_X0_isOpen
set_option maxRecDepth 20000 in
theorem ggX0_openFile_X3_put : GoodIn wsX0_openFile wsX3_put := goodIn_r _ [20, 12, 35] (by decide +kernel) (by decide +kernel)
set_option maxRecDepth 20000 in
theorem gX0_openFile_X3_put : GoodIn wsX0_openFile (wsV RX0 47 RX3 yX3_put wsX3_put) := goodIn_app (goodIn_of _ (by decide +kernel)) ggX0_openFile_X3_put
set_option maxRecDepth 20000 in
theorem ggX0_openFile_X0_filesThatAre : GoodIn wsX0_openFile wsX0_filesThatAre := goodIn_r _ [24, 1, 7, 8, 9, 10, 11, 12, 25, 26, 27, 28, 29, 30, 31, 32, 33, 34, 35] (by decide +kernel) (by decide +kernel)
set_option maxRecDepth 20000 in
theorem gX0_openFile_X0_filesThatAre : GoodIn wsX0_openFile (wsV RX0 65 RX0 yX0_filesThatAre wsX0_filesThatAre) := goodIn_app (goodIn_of _ (by decide +kernel)) ggX0_openFile_X0_filesThatAre
theorem dX0_openFile_0 : decode cX0_openFile 0 = .ok (.aload_n 0, 1) := by decide +kernel
theorem dX0_openFile_1 : decode cX0_openFile 1 = .ok (.iload_n 1, 1) := by decide +kernel
theorem dX0_openFile_2 : decode cX0_openFile 2 = .ok (.invokevirtual 58, 3) := by decide +kernel
theorem dX0_openFile_5 : decode cX0_openFile 5 = .ok (.ifCond .ne 5, 3) := by decide +kernel
theorem dX0_openFile_8 : decode cX0_openFile 8 = .ok (.iconst (-1), 1) := by decide +kernel
theorem dX0_openFile_9 : decode cX0_openFile 9 = .ok (.ireturn, 1) := by decide +kernel
theorem dX0_openFile_10 : decode cX0_openFile 10 = .ok (.aload_n 0, 1) := by decide +kernel
theorem dX0_openFile_11 : decode cX0_openFile 11 = .ok (.iload_n 1, 1) := by decide +kernel
theorem dX0_openFile_12 : decode cX0_openFile 12 = .ok (.invokevirtual 62, 3) := by decide +kernel
theorem dX0_openFile_15 : decode cX0_openFile 15 = .ok (.ifCond .eq 6, 3) := by decide +kernel
theorem dX0_openFile_18 : decode cX0_openFile 18 = .ok (.bipush (-4), 2) := by decide +kernel
theorem dX0_openFile_20 : decode cX0_openFile 20 = .ok (.ireturn, 1) := by decide +kernel
theorem dX0_openFile_21 : decode cX0_openFile 21 = .ok (.aload_n 0, 1) := by decide +kernel
theorem dX0_openFile_22 : decode cX0_openFile 22 = .ok (.getfield 26, 3) := by decide +kernel
theorem dX0_openFile_25 : decode cX0_openFile 25 = .ok (.iload_n 1, 1) := by decide +kernel
theorem dX0_openFile_26 : decode cX0_openFile 26 = .ok (.iconst 2, 1) := by decide +kernel
theorem dX0_openFile_27 : decode cX0_openFile 27 = .ok (.invokevirtual 47, 3) := by decide +kernel
theorem dX0_openFile_30 : decode cX0_openFile 30 = .ok (.aload_n 0, 1) := by decide +kernel
theorem dX0_openFile_31 : decode cX0_openFile 31 = .ok (.iconst 2, 1) := by decide +kernel
theorem dX0_openFile_32 : decode cX0_openFile 32 = .ok (.invokevirtual 65, 3) := by decide +kernel
theorem dX0_openFile_35 : decode cX0_openFile 35 = .ok (.ireturn, 1) := by decide +kernel
set_option maxRecDepth 20000 in
theorem ggX0_closeFile_X0_isFile : GoodIn wsX0_closeFile wsX0_isFile := goodIn_r _ [8, 3, 9, 10, 11, 12, 13, 14, 48, 49, 50, 51, 52, 53, 54, 55, 56, 57, 58] (by decide +kernel) (by decide +kernel)
set_option maxRecDepth 20000 in
theorem gX0_closeFile_X0_isFile : GoodIn wsX0_closeFile (wsV RX0 58 RX0 yX0_isFile wsX0_isFile) := goodIn_app (goodIn_of _ (by decide +kernel)) ggX0_closeFile_X0_isFile
set_option maxRecDepth 20000 in
theorem ggX0_closeFile_X0_isOpen : GoodIn wsX0_closeFile wsX0_isOpen := goodIn_r _ [18, 3, 9, 10, 11, 12, 13, 14, 48, 49, 50, 51, 52, 53, 54, 55, 56, 57, 58] (by decide +kernel) (by decide +kernel)
set_option maxRecDepth 20000 in
theorem gX0_closeFile_X0_isOpen : GoodIn wsX0_closeFile (wsV RX0 62 RX0 yX0_isOpen wsX0_isOpen) := goodIn_app (goodIn_of _ (by decide +kernel)) ggX0_closeFile_X0_isOpen
set_option maxRecDepth 20000 in
theorem ggX0_closeFile_X0_giveBack : GoodIn wsX0_closeFile wsX0_giveBack := goodIn_r _ [22, 2, 23, 24, 25, 26, 27, 7, 28, 29, 30, 31, 32, 12, 33, 14, 34, 35, 36, 37, 38, 39, 9, 10, 11, 13, 40, 41, 42, 43, 44, 45, 46, 47, 48, 49, 50, 51, 52, 53, 54, 55, 56, 57, 58] (by decide +kernel) (by decide +kernel)
set_option maxRecDepth 20000 in
theorem gX0_closeFile_X0_giveBack : GoodIn wsX0_closeFile (wsV RX0 69 RX0 yX0_giveBack wsX0_giveBack) := goodIn_app (goodIn_of _ (by decide +kernel)) ggX0_closeFile_X0_giveBack
set_option maxRecDepth 20000 in
theorem ggX0_closeFile_X3_at : GoodIn wsX0_closeFile wsX3_at := goodIn_r _ [33, 14, 58] (by decide +kernel) (by decide +kernel)
set_option maxRecDepth 20000 in
theorem gX0_closeFile_X3_at : GoodIn wsX0_closeFile (wsV RX0 72 RX3 yX3_at wsX3_at) := goodIn_app (goodIn_of _ (by decide +kernel)) ggX0_closeFile_X3_at
set_option maxRecDepth 20000 in
theorem ggX0_closeFile_X3_put : GoodIn wsX0_closeFile wsX3_put := goodIn_r _ [43, 14, 58] (by decide +kernel) (by decide +kernel)
set_option maxRecDepth 20000 in
theorem gX0_closeFile_X3_put : GoodIn wsX0_closeFile (wsV RX0 47 RX3 yX3_put wsX3_put) := goodIn_app (goodIn_of _ (by decide +kernel)) ggX0_closeFile_X3_put
theorem dX0_closeFile_0 : decode cX0_closeFile 0 = .ok (.aload_n 0, 1) := by decide +kernel
theorem dX0_closeFile_1 : decode cX0_closeFile 1 = .ok (.iload_n 1, 1) := by decide +kernel
theorem dX0_closeFile_2 : decode cX0_closeFile 2 = .ok (.invokevirtual 58, 3) := by decide +kernel
theorem dX0_closeFile_5 : decode cX0_closeFile 5 = .ok (.ifCond .ne 5, 3) := by decide +kernel
theorem dX0_closeFile_8 : decode cX0_closeFile 8 = .ok (.iconst (-1), 1) := by decide +kernel
theorem dX0_closeFile_9 : decode cX0_closeFile 9 = .ok (.ireturn, 1) := by decide +kernel
theorem dX0_closeFile_10 : decode cX0_closeFile 10 = .ok (.aload_n 0, 1) := by decide +kernel
theorem dX0_closeFile_11 : decode cX0_closeFile 11 = .ok (.iload_n 1, 1) := by decide +kernel
theorem dX0_closeFile_12 : decode cX0_closeFile 12 = .ok (.invokevirtual 62, 3) := by decide +kernel
theorem dX0_closeFile_15 : decode cX0_closeFile 15 = .ok (.ifCond .ne 6, 3) := by decide +kernel
theorem dX0_closeFile_18 : decode cX0_closeFile 18 = .ok (.bipush (-4), 2) := by decide +kernel
theorem dX0_closeFile_20 : decode cX0_closeFile 20 = .ok (.ireturn, 1) := by decide +kernel
theorem dX0_closeFile_21 : decode cX0_closeFile 21 = .ok (.aload_n 0, 1) := by decide +kernel
theorem dX0_closeFile_22 : decode cX0_closeFile 22 = .ok (.iload_n 1, 1) := by decide +kernel
theorem dX0_closeFile_23 : decode cX0_closeFile 23 = .ok (.invokevirtual 69, 3) := by decide +kernel
theorem dX0_closeFile_26 : decode cX0_closeFile 26 = .ok (.istore_n 2, 1) := by decide +kernel
theorem dX0_closeFile_27 : decode cX0_closeFile 27 = .ok (.aload_n 0, 1) := by decide +kernel
theorem dX0_closeFile_28 : decode cX0_closeFile 28 = .ok (.getfield 35, 3) := by decide +kernel
theorem dX0_closeFile_31 : decode cX0_closeFile 31 = .ok (.iload_n 1, 1) := by decide +kernel
theorem dX0_closeFile_32 : decode cX0_closeFile 32 = .ok (.aload_n 0, 1) := by decide +kernel
theorem dX0_closeFile_33 : decode cX0_closeFile 33 = .ok (.getfield 32, 3) := by decide +kernel
theorem dX0_closeFile_36 : decode cX0_closeFile 36 = .ok (.iload_n 1, 1) := by decide +kernel
theorem dX0_closeFile_37 : decode cX0_closeFile 37 = .ok (.invokevirtual 72, 3) := by decide +kernel
theorem dX0_closeFile_40 : decode cX0_closeFile 40 = .ok (.invokevirtual 47, 3) := by decide +kernel
theorem dX0_closeFile_43 : decode cX0_closeFile 43 = .ok (.aload_n 0, 1) := by decide +kernel
theorem dX0_closeFile_44 : decode cX0_closeFile 44 = .ok (.getfield 26, 3) := by decide +kernel
theorem dX0_closeFile_47 : decode cX0_closeFile 47 = .ok (.iload_n 1, 1) := by decide +kernel
theorem dX0_closeFile_48 : decode cX0_closeFile 48 = .ok (.iconst 1, 1) := by decide +kernel
theorem dX0_closeFile_49 : decode cX0_closeFile 49 = .ok (.invokevirtual 47, 3) := by decide +kernel
theorem dX0_closeFile_52 : decode cX0_closeFile 52 = .ok (.iload_n 2, 1) := by decide +kernel
theorem dX0_closeFile_53 : decode cX0_closeFile 53 = .ok (.ireturn, 1) := by decide +kernel
set_option maxRecDepth 20000 in
theorem ggX0_removeFile_X0_isFile : GoodIn wsX0_removeFile wsX0_isFile := goodIn_r _ [8, 3, 9, 10, 11, 12, 13, 14, 33, 34, 35, 36, 37, 38, 39, 40, 41, 42, 43] (by decide +kernel) (by decide +kernel)
set_option maxRecDepth 20000 in
theorem gX0_removeFile_X0_isFile : GoodIn wsX0_removeFile (wsV RX0 58 RX0 yX0_isFile wsX0_isFile) := goodIn_app (goodIn_of _ (by decide +kernel)) ggX0_removeFile_X0_isFile
set_option maxRecDepth 20000 in
theorem ggX0_removeFile_X0_isOpen : GoodIn wsX0_removeFile wsX0_isOpen := goodIn_r _ [18, 3, 9, 10, 11, 12, 13, 14, 33, 34, 35, 36, 37, 38, 39, 40, 41, 42, 43] (by decide +kernel) (by decide +kernel)
set_option maxRecDepth 20000 in
theorem gX0_removeFile_X0_isOpen : GoodIn wsX0_removeFile (wsV RX0 62 RX0 yX0_isOpen wsX0_isOpen) := goodIn_app (goodIn_of _ (by decide +kernel)) ggX0_removeFile_X0_isOpen
set_option maxRecDepth 20000 in
theorem ggX0_removeFile_X3_at : GoodIn wsX0_removeFile wsX3_at := goodIn_r _ [22, 14, 43] (by decide +kernel) (by decide +kernel)
set_option maxRecDepth 20000 in
theorem gX0_removeFile_X3_at : GoodIn wsX0_removeFile (wsV RX0 72 RX3 yX3_at wsX3_at) := goodIn_app (goodIn_of _ (by decide +kernel)) ggX0_removeFile_X3_at
set_option maxRecDepth 20000 in
theorem ggX0_removeFile_X0_freeFrom : GoodIn wsX0_removeFile wsX0_freeFrom := goodIn_r _ [26, 27, 28, 1, 9, 10, 11, 12, 13, 14, 19, 20, 21, 22, 29, 30, 31, 32, 33, 34, 35, 36, 37, 38, 39, 40, 41, 42, 43] (by decide +kernel) (by decide +kernel)
set_option maxRecDepth 20000 in
theorem gX0_removeFile_X0_freeFrom : GoodIn wsX0_removeFile (wsV RX0 75 RX0 yX0_freeFrom wsX0_freeFrom) := goodIn_app (goodIn_of _ (by decide +kernel)) ggX0_removeFile_X0_freeFrom
set_option maxRecDepth 20000 in
theorem ggX0_removeFile_X3_put : GoodIn wsX0_removeFile wsX3_put := goodIn_r _ [32, 14, 43] (by decide +kernel) (by decide +kernel)
set_option maxRecDepth 20000 in
theorem gX0_removeFile_X3_put : GoodIn wsX0_removeFile (wsV RX0 47 RX3 yX3_put wsX3_put) := goodIn_app (goodIn_of _ (by decide +kernel)) ggX0_removeFile_X3_put
theorem dX0_removeFile_0 : decode cX0_removeFile 0 = .ok (.aload_n 0, 1) := by decide +kernel
theorem dX0_removeFile_1 : decode cX0_removeFile 1 = .ok (.iload_n 1, 1) := by decide +kernel
theorem dX0_removeFile_2 : decode cX0_removeFile 2 = .ok (.invokevirtual 58, 3) := by decide +kernel
theorem dX0_removeFile_5 : decode cX0_removeFile 5 = .ok (.ifCond .ne 5, 3) := by decide +kernel
theorem dX0_removeFile_8 : decode cX0_removeFile 8 = .ok (.iconst (-1), 1) := by decide +kernel
theorem dX0_removeFile_9 : decode cX0_removeFile 9 = .ok (.ireturn, 1) := by decide +kernel
theorem dX0_removeFile_10 : decode cX0_removeFile 10 = .ok (.aload_n 0, 1) := by decide +kernel
theorem dX0_removeFile_11 : decode cX0_removeFile 11 = .ok (.iload_n 1, 1) := by decide +kernel
theorem dX0_removeFile_12 : decode cX0_removeFile 12 = .ok (.invokevirtual 62, 3) := by decide +kernel
theorem dX0_removeFile_15 : decode cX0_removeFile 15 = .ok (.ifCond .eq 6, 3) := by decide +kernel
theorem dX0_removeFile_18 : decode cX0_removeFile 18 = .ok (.bipush (-4), 2) := by decide +kernel
theorem dX0_removeFile_20 : decode cX0_removeFile 20 = .ok (.ireturn, 1) := by decide +kernel
theorem dX0_removeFile_21 : decode cX0_removeFile 21 = .ok (.aload_n 0, 1) := by decide +kernel
theorem dX0_removeFile_22 : decode cX0_removeFile 22 = .ok (.getfield 29, 3) := by decide +kernel
theorem dX0_removeFile_25 : decode cX0_removeFile 25 = .ok (.iload_n 1, 1) := by decide +kernel
theorem dX0_removeFile_26 : decode cX0_removeFile 26 = .ok (.invokevirtual 72, 3) := by decide +kernel
theorem dX0_removeFile_29 : decode cX0_removeFile 29 = .ok (.istore_n 2, 1) := by decide +kernel
theorem dX0_removeFile_30 : decode cX0_removeFile 30 = .ok (.aload_n 0, 1) := by decide +kernel
theorem dX0_removeFile_31 : decode cX0_removeFile 31 = .ok (.iload_n 1, 1) := by decide +kernel
theorem dX0_removeFile_32 : decode cX0_removeFile 32 = .ok (.iconst 0, 1) := by decide +kernel
theorem dX0_removeFile_33 : decode cX0_removeFile 33 = .ok (.invokevirtual 75, 3) := by decide +kernel
theorem dX0_removeFile_36 : decode cX0_removeFile 36 = .ok (.aload_n 0, 1) := by decide +kernel
theorem dX0_removeFile_37 : decode cX0_removeFile 37 = .ok (.getfield 32, 3) := by decide +kernel
theorem dX0_removeFile_40 : decode cX0_removeFile 40 = .ok (.iload_n 1, 1) := by decide +kernel
theorem dX0_removeFile_41 : decode cX0_removeFile 41 = .ok (.iconst 0, 1) := by decide +kernel
theorem dX0_removeFile_42 : decode cX0_removeFile 42 = .ok (.invokevirtual 47, 3) := by decide +kernel
theorem dX0_removeFile_45 : decode cX0_removeFile 45 = .ok (.aload_n 0, 1) := by decide +kernel
theorem dX0_removeFile_46 : decode cX0_removeFile 46 = .ok (.getfield 26, 3) := by decide +kernel
theorem dX0_removeFile_49 : decode cX0_removeFile 49 = .ok (.iload_n 1, 1) := by decide +kernel
theorem dX0_removeFile_50 : decode cX0_removeFile 50 = .ok (.iconst 0, 1) := by decide +kernel
theorem dX0_removeFile_51 : decode cX0_removeFile 51 = .ok (.invokevirtual 47, 3) := by decide +kernel
theorem dX0_removeFile_54 : decode cX0_removeFile 54 = .ok (.iload_n 2, 1) := by decide +kernel
theorem dX0_removeFile_55 : decode cX0_removeFile 55 = .ok (.ireturn, 1) := by decide +kernel
set_option maxRecDepth 20000 in
theorem ggX0_syncFile_X0_isFile : GoodIn wsX0_syncFile wsX0_isFile := goodIn_r _ [7, 8, 9, 10, 11, 12, 13, 14, 27, 28, 29, 30, 31, 32, 33, 34, 35, 36, 37] (by decide +kernel) (by decide +kernel)
set_option maxRecDepth 20000 in
theorem gX0_syncFile_X0_isFile : GoodIn wsX0_syncFile (wsV RX0 58 RX0 yX0_isFile wsX0_isFile) := goodIn_app (goodIn_of _ (by decide +kernel)) ggX0_syncFile_X0_isFile
set_option maxRecDepth 20000 in
theorem ggX0_syncFile_X0_isOpen : GoodIn wsX0_syncFile wsX0_isOpen := goodIn_r _ [18, 8, 9, 10, 11, 12, 13, 14, 27, 28, 29, 30, 31, 32, 33, 34, 35, 36, 37] (by decide +kernel) (by decide +kernel)
set_option maxRecDepth 20000 in
theorem gX0_syncFile_X0_isOpen : GoodIn wsX0_syncFile (wsV RX0 62 RX0 yX0_isOpen wsX0_isOpen) := goodIn_app (goodIn_of _ (by decide +kernel)) ggX0_syncFile_X0_isOpen
set_option maxRecDepth 20000 in
theorem ggX0_syncFile_X3_at : GoodIn wsX0_syncFile wsX3_at := goodIn_r _ [22, 14, 37] (by decide +kernel) (by decide +kernel)
set_option maxRecDepth 20000 in
theorem gX0_syncFile_X3_at : GoodIn wsX0_syncFile (wsV RX0 72 RX3 yX3_at wsX3_at) := goodIn_app (goodIn_of _ (by decide +kernel)) ggX0_syncFile_X3_at
set_option maxRecDepth 20000 in
theorem ggX0_syncFile_X3_put : GoodIn wsX0_syncFile wsX3_put := goodIn_r _ [26, 14, 37] (by decide +kernel) (by decide +kernel)
set_option maxRecDepth 20000 in
theorem gX0_syncFile_X3_put : GoodIn wsX0_syncFile (wsV RX0 47 RX3 yX3_put wsX3_put) := goodIn_app (goodIn_of _ (by decide +kernel)) ggX0_syncFile_X3_put
theorem dX0_syncFile_0 : decode cX0_syncFile 0 = .ok (.aload_n 0, 1) := by decide +kernel
theorem dX0_syncFile_1 : decode cX0_syncFile 1 = .ok (.iload_n 1, 1) := by decide +kernel
theorem dX0_syncFile_2 : decode cX0_syncFile 2 = .ok (.invokevirtual 58, 3) := by decide +kernel
theorem dX0_syncFile_5 : decode cX0_syncFile 5 = .ok (.ifCond .ne 5, 3) := by decide +kernel
theorem dX0_syncFile_8 : decode cX0_syncFile 8 = .ok (.iconst (-1), 1) := by decide +kernel
theorem dX0_syncFile_9 : decode cX0_syncFile 9 = .ok (.ireturn, 1) := by decide +kernel
theorem dX0_syncFile_10 : decode cX0_syncFile 10 = .ok (.aload_n 0, 1) := by decide +kernel
theorem dX0_syncFile_11 : decode cX0_syncFile 11 = .ok (.iload_n 1, 1) := by decide +kernel
theorem dX0_syncFile_12 : decode cX0_syncFile 12 = .ok (.invokevirtual 62, 3) := by decide +kernel
theorem dX0_syncFile_15 : decode cX0_syncFile 15 = .ok (.ifCond .ne 6, 3) := by decide +kernel
theorem dX0_syncFile_18 : decode cX0_syncFile 18 = .ok (.bipush (-4), 2) := by decide +kernel
theorem dX0_syncFile_20 : decode cX0_syncFile 20 = .ok (.ireturn, 1) := by decide +kernel
theorem dX0_syncFile_21 : decode cX0_syncFile 21 = .ok (.aload_n 0, 1) := by decide +kernel
theorem dX0_syncFile_22 : decode cX0_syncFile 22 = .ok (.getfield 32, 3) := by decide +kernel
theorem dX0_syncFile_25 : decode cX0_syncFile 25 = .ok (.iload_n 1, 1) := by decide +kernel
theorem dX0_syncFile_26 : decode cX0_syncFile 26 = .ok (.invokevirtual 72, 3) := by decide +kernel
theorem dX0_syncFile_29 : decode cX0_syncFile 29 = .ok (.aload_n 0, 1) := by decide +kernel
theorem dX0_syncFile_30 : decode cX0_syncFile 30 = .ok (.getfield 35, 3) := by decide +kernel
theorem dX0_syncFile_33 : decode cX0_syncFile 33 = .ok (.iload_n 1, 1) := by decide +kernel
theorem dX0_syncFile_34 : decode cX0_syncFile 34 = .ok (.invokevirtual 72, 3) := by decide +kernel
theorem dX0_syncFile_37 : decode cX0_syncFile 37 = .ok (.isub, 1) := by decide +kernel
theorem dX0_syncFile_38 : decode cX0_syncFile 38 = .ok (.istore_n 2, 1) := by decide +kernel
theorem dX0_syncFile_39 : decode cX0_syncFile 39 = .ok (.aload_n 0, 1) := by decide +kernel
theorem dX0_syncFile_40 : decode cX0_syncFile 40 = .ok (.getfield 35, 3) := by decide +kernel
theorem dX0_syncFile_43 : decode cX0_syncFile 43 = .ok (.iload_n 1, 1) := by decide +kernel
theorem dX0_syncFile_44 : decode cX0_syncFile 44 = .ok (.aload_n 0, 1) := by decide +kernel
theorem dX0_syncFile_45 : decode cX0_syncFile 45 = .ok (.getfield 32, 3) := by decide +kernel
theorem dX0_syncFile_48 : decode cX0_syncFile 48 = .ok (.iload_n 1, 1) := by decide +kernel
theorem dX0_syncFile_49 : decode cX0_syncFile 49 = .ok (.invokevirtual 72, 3) := by decide +kernel
theorem dX0_syncFile_52 : decode cX0_syncFile 52 = .ok (.invokevirtual 47, 3) := by decide +kernel
theorem dX0_syncFile_55 : decode cX0_syncFile 55 = .ok (.iload_n 2, 1) := by decide +kernel
theorem dX0_syncFile_56 : decode cX0_syncFile 56 = .ok (.ireturn, 1) := by decide +kernel
set_option maxRecDepth 20000 in
theorem ggX0_appendTo_X0_isFile : GoodIn wsX0_appendTo wsX0_isFile := goodIn_r _ [5, 6, 7, 8, 9, 10, 11, 12, 113, 114, 115, 116, 117, 118, 119, 120, 121, 122, 123] (by decide +kernel) (by decide +kernel)
set_option maxRecDepth 20000 in
theorem gX0_appendTo_X0_isFile : GoodIn wsX0_appendTo (wsV RX0 58 RX0 yX0_isFile wsX0_isFile) := goodIn_app (goodIn_of _ (by decide +kernel)) ggX0_appendTo_X0_isFile
set_option maxRecDepth 20000 in
theorem ggX0_appendTo_X0_isOpen : GoodIn wsX0_appendTo wsX0_isOpen := goodIn_r _ [16, 6, 7, 8, 9, 10, 11, 12, 113, 114, 115, 116, 117, 118, 119, 120, 121, 122, 123] (by decide +kernel) (by decide +kernel)
set_option maxRecDepth 20000 in
theorem gX0_appendTo_X0_isOpen : GoodIn wsX0_appendTo (wsV RX0 62 RX0 yX0_isOpen wsX0_isOpen) := goodIn_app (goodIn_of _ (by decide +kernel)) ggX0_appendTo_X0_isOpen
set_option maxRecDepth 20000 in
theorem ggX0_appendTo_X0_blocksWithoutData : GoodIn wsX0_appendTo wsX0_blocksWithoutData := goodIn_r _ [20, 21, 22, 23, 4, 24, 25, 26, 27, 28, 10, 29, 12, 113, 114, 115, 116, 117, 118, 119, 120, 121, 122, 123] (by decide +kernel) (by decide +kernel)
set_option maxRecDepth 20000 in
theorem gX0_appendTo_X0_blocksWithoutData : GoodIn wsX0_appendTo (wsV RX0 78 RX0 yX0_blocksWithoutData wsX0_blocksWithoutData) := goodIn_app (goodIn_of _ (by decide +kernel)) ggX0_appendTo_X0_blocksWithoutData
set_option maxRecDepth 20000 in
theorem ggX0_appendTo_X0_lentOf : GoodIn wsX0_appendTo wsX0_lentOf := goodIn_r _ [33, 34, 25, 26, 27, 28, 10, 29, 12, 113, 114, 115, 116, 117, 118, 119, 120, 121, 122, 123] (by decide +kernel) (by decide +kernel)
set_option maxRecDepth 20000 in
theorem gX0_appendTo_X0_lentOf : GoodIn wsX0_appendTo (wsV RX0 82 RX0 yX0_lentOf wsX0_lentOf) := goodIn_app (goodIn_of _ (by decide +kernel)) ggX0_appendTo_X0_lentOf
set_option maxRecDepth 20000 in
theorem ggX0_appendTo_X0_takeBack : GoodIn wsX0_appendTo wsX0_takeBack := goodIn_r _ [38, 39, 40, 41, 42, 4, 43, 44, 7, 8, 9, 10, 11, 12, 45, 46, 47, 48, 30, 31, 32, 33, 34, 25, 26, 27, 28, 29, 49, 50, 51, 52, 53, 54, 55, 56, 57, 58, 59, 60, 61, 62, 63, 64, 65, 66, 113, 114, 115, 116, 117, 118, 119, 120, 121, 122, 123] (by decide +kernel) (by decide +kernel)
set_option maxRecDepth 20000 in
theorem gX0_appendTo_X0_takeBack : GoodIn wsX0_appendTo (wsV RX0 85 RX0 yX0_takeBack wsX0_takeBack) := goodIn_app (goodIn_of _ (by decide +kernel)) ggX0_appendTo_X0_takeBack
set_option maxRecDepth 20000 in
theorem ggX0_appendTo_X0_lengthen : GoodIn wsX0_appendTo wsX0_lengthen := goodIn_r _ [70, 53, 71, 72, 73, 74, 75, 34, 26, 27, 28, 10, 29, 12, 40, 41, 42, 4, 43, 44, 7, 8, 9, 11, 76, 77, 78, 79, 58, 80, 81, 82, 83, 59, 60, 61, 62, 63, 64, 65, 66, 84, 85, 86, 87, 88, 89, 90, 91, 92, 93, 94, 95, 113, 114, 115, 116, 117, 118, 119, 120, 121, 122, 123] (by decide +kernel) (by decide +kernel)
set_option maxRecDepth 20000 in
theorem gX0_appendTo_X0_lengthen : GoodIn wsX0_appendTo (wsV RX0 88 RX0 yX0_lengthen wsX0_lengthen) := goodIn_app (goodIn_of _ (by decide +kernel)) ggX0_appendTo_X0_lengthen
set_option maxRecDepth 20000 in
theorem ggX0_appendTo_X0_write : GoodIn wsX0_appendTo wsX0_write := goodIn_r _ [99, 25, 100, 39, 26, 27, 28, 10, 29, 12, 101, 102, 103, 4, 104, 44, 58, 7, 8, 9, 11, 59, 60, 61, 62, 63, 64, 65, 66, 113, 114, 115, 116, 117, 118, 119, 120, 121, 122, 123] (by decide +kernel) (by decide +kernel)
set_option maxRecDepth 20000 in
theorem gX0_appendTo_X0_write : GoodIn wsX0_appendTo (wsV RX0 91 RX0 yX0_write wsX0_write) := goodIn_app (goodIn_of _ (by decide +kernel)) ggX0_appendTo_X0_write
set_option maxRecDepth 20000 in
theorem ggX0_appendTo_X0_extentsOf : GoodIn wsX0_appendTo wsX0_extentsOf := goodIn_r _ [108, 44, 7, 8, 9, 10, 11, 12, 109, 110, 111, 4, 112, 58, 26, 27, 28, 29, 113, 114, 115, 116, 117, 118, 119, 120, 121, 122, 123] (by decide +kernel) (by decide +kernel)
set_option maxRecDepth 20000 in
theorem gX0_appendTo_X0_extentsOf : GoodIn wsX0_appendTo (wsV RX0 95 RX0 yX0_extentsOf wsX0_extentsOf) := goodIn_app (goodIn_of _ (by decide +kernel)) ggX0_appendTo_X0_extentsOf
theorem dX0_appendTo_0 : decode cX0_appendTo 0 = .ok (.aload_n 0, 1) := by decide +kernel
theorem dX0_appendTo_1 : decode cX0_appendTo 1 = .ok (.iload_n 1, 1) := by decide +kernel
theorem dX0_appendTo_2 : decode cX0_appendTo 2 = .ok (.invokevirtual 58, 3) := by decide +kernel
theorem dX0_appendTo_5 : decode cX0_appendTo 5 = .ok (.ifCond .ne 5, 3) := by decide +kernel
theorem dX0_appendTo_8 : decode cX0_appendTo 8 = .ok (.iconst (-1), 1) := by decide +kernel
theorem dX0_appendTo_9 : decode cX0_appendTo 9 = .ok (.ireturn, 1) := by decide +kernel
theorem dX0_appendTo_10 : decode cX0_appendTo 10 = .ok (.iload_n 2, 1) := by decide +kernel
theorem dX0_appendTo_11 : decode cX0_appendTo 11 = .ok (.iconst 1, 1) := by decide +kernel
theorem dX0_appendTo_12 : decode cX0_appendTo 12 = .ok (.if_icmp .lt 19, 3) := by decide +kernel
theorem dX0_appendTo_15 : decode cX0_appendTo 15 = .ok (.iload_n 2, 1) := by decide +kernel
theorem dX0_appendTo_16 : decode cX0_appendTo 16 = .ok (.bipush 64, 2) := by decide +kernel
theorem dX0_appendTo_18 : decode cX0_appendTo 18 = .ok (.if_icmp .gt 13, 3) := by decide +kernel
theorem dX0_appendTo_21 : decode cX0_appendTo 21 = .ok (.iload_n 3, 1) := by decide +kernel
theorem dX0_appendTo_22 : decode cX0_appendTo 22 = .ok (.ifCond .lt 9, 3) := by decide +kernel
theorem dX0_appendTo_25 : decode cX0_appendTo 25 = .ok (.iload_n 3, 1) := by decide +kernel
theorem dX0_appendTo_26 : decode cX0_appendTo 26 = .ok (.bipush 99, 2) := by decide +kernel
theorem dX0_appendTo_28 : decode cX0_appendTo 28 = .ok (.if_icmp .le 6, 3) := by decide +kernel
theorem dX0_appendTo_31 : decode cX0_appendTo 31 = .ok (.bipush (-2), 2) := by decide +kernel
theorem dX0_appendTo_33 : decode cX0_appendTo 33 = .ok (.ireturn, 1) := by decide +kernel
theorem dX0_appendTo_34 : decode cX0_appendTo 34 = .ok (.aload_n 0, 1) := by decide +kernel
theorem dX0_appendTo_35 : decode cX0_appendTo 35 = .ok (.iload_n 1, 1) := by decide +kernel
theorem dX0_appendTo_36 : decode cX0_appendTo 36 = .ok (.invokevirtual 62, 3) := by decide +kernel
theorem dX0_appendTo_39 : decode cX0_appendTo 39 = .ok (.ifCond .eq 11, 3) := by decide +kernel
theorem dX0_appendTo_42 : decode cX0_appendTo 42 = .ok (.iload_n 2, 1) := by decide +kernel
theorem dX0_appendTo_43 : decode cX0_appendTo 43 = .ok (.aload_n 0, 1) := by decide +kernel
theorem dX0_appendTo_44 : decode cX0_appendTo 44 = .ok (.invokevirtual 78, 3) := by decide +kernel
theorem dX0_appendTo_47 : decode cX0_appendTo 47 = .ok (.if_icmp .le 6, 3) := by decide +kernel
theorem dX0_appendTo_50 : decode cX0_appendTo 50 = .ok (.bipush (-4), 2) := by decide +kernel
theorem dX0_appendTo_52 : decode cX0_appendTo 52 = .ok (.ireturn, 1) := by decide +kernel
theorem dX0_appendTo_53 : decode cX0_appendTo 53 = .ok (.iload_n 2, 1) := by decide +kernel
theorem dX0_appendTo_54 : decode cX0_appendTo 54 = .ok (.aload_n 0, 1) := by decide +kernel
theorem dX0_appendTo_55 : decode cX0_appendTo 55 = .ok (.iload_n 1, 1) := by decide +kernel
theorem dX0_appendTo_56 : decode cX0_appendTo 56 = .ok (.invokevirtual 82, 3) := by decide +kernel
theorem dX0_appendTo_59 : decode cX0_appendTo 59 = .ok (.isub, 1) := by decide +kernel
theorem dX0_appendTo_60 : decode cX0_appendTo 60 = .ok (.istore 4, 2) := by decide +kernel
theorem dX0_appendTo_62 : decode cX0_appendTo 62 = .ok (.iload 4, 2) := by decide +kernel
theorem dX0_appendTo_64 : decode cX0_appendTo 64 = .ok (.ifCond .le 17, 3) := by decide +kernel
theorem dX0_appendTo_67 : decode cX0_appendTo 67 = .ok (.aload_n 0, 1) := by decide +kernel
theorem dX0_appendTo_68 : decode cX0_appendTo 68 = .ok (.iload_n 1, 1) := by decide +kernel
theorem dX0_appendTo_69 : decode cX0_appendTo 69 = .ok (.iload 4, 2) := by decide +kernel
theorem dX0_appendTo_71 : decode cX0_appendTo 71 = .ok (.invokevirtual 85, 3) := by decide +kernel
theorem dX0_appendTo_74 : decode cX0_appendTo 74 = .ok (.aload_n 0, 1) := by decide +kernel
theorem dX0_appendTo_75 : decode cX0_appendTo 75 = .ok (.iload_n 1, 1) := by decide +kernel
theorem dX0_appendTo_76 : decode cX0_appendTo 76 = .ok (.iload 4, 2) := by decide +kernel
theorem dX0_appendTo_78 : decode cX0_appendTo 78 = .ok (.invokevirtual 88, 3) := by decide +kernel
theorem dX0_appendTo_81 : decode cX0_appendTo 81 = .ok (.aload_n 0, 1) := by decide +kernel
theorem dX0_appendTo_82 : decode cX0_appendTo 82 = .ok (.iload_n 1, 1) := by decide +kernel
theorem dX0_appendTo_83 : decode cX0_appendTo 83 = .ok (.iload_n 2, 1) := by decide +kernel
theorem dX0_appendTo_84 : decode cX0_appendTo 84 = .ok (.iload_n 3, 1) := by decide +kernel
theorem dX0_appendTo_85 : decode cX0_appendTo 85 = .ok (.invokevirtual 91, 3) := by decide +kernel
theorem dX0_appendTo_88 : decode cX0_appendTo 88 = .ok (.aload_n 0, 1) := by decide +kernel
theorem dX0_appendTo_89 : decode cX0_appendTo 89 = .ok (.iload_n 1, 1) := by decide +kernel
theorem dX0_appendTo_90 : decode cX0_appendTo 90 = .ok (.invokevirtual 95, 3) := by decide +kernel
theorem dX0_appendTo_93 : decode cX0_appendTo 93 = .ok (.ireturn, 1) := by decide +kernel
set_option maxRecDepth 20000 in
theorem ggX0_cutFile_X0_isFile : GoodIn wsX0_cutFile wsX0_isFile := goodIn_r _ [12, 13, 14, 15, 16, 17, 18, 19, 52, 53, 54, 55, 56, 57, 58, 59, 60, 61, 62] (by decide +kernel) (by decide +kernel)
set_option maxRecDepth 20000 in
theorem gX0_cutFile_X0_isFile : GoodIn wsX0_cutFile (wsV RX0 58 RX0 yX0_isFile wsX0_isFile) := goodIn_app (goodIn_of _ (by decide +kernel)) ggX0_cutFile_X0_isFile
set_option maxRecDepth 20000 in
theorem ggX0_cutFile_X0_isOpen : GoodIn wsX0_cutFile wsX0_isOpen := goodIn_r _ [23, 13, 14, 15, 16, 17, 18, 19, 52, 53, 54, 55, 56, 57, 58, 59, 60, 61, 62] (by decide +kernel) (by decide +kernel)
set_option maxRecDepth 20000 in
theorem gX0_cutFile_X0_isOpen : GoodIn wsX0_cutFile (wsV RX0 62 RX0 yX0_isOpen wsX0_isOpen) := goodIn_app (goodIn_of _ (by decide +kernel)) ggX0_cutFile_X0_isOpen
set_option maxRecDepth 20000 in
theorem ggX0_cutFile_X3_at : GoodIn wsX0_cutFile wsX3_at := goodIn_r _ [27, 19, 62] (by decide +kernel) (by decide +kernel)
set_option maxRecDepth 20000 in
theorem gX0_cutFile_X3_at : GoodIn wsX0_cutFile (wsV RX0 72 RX3 yX3_at wsX3_at) := goodIn_app (goodIn_of _ (by decide +kernel)) ggX0_cutFile_X3_at
set_option maxRecDepth 20000 in
theorem ggX0_cutFile_X0_giveBack : GoodIn wsX0_cutFile wsX0_giveBack := goodIn_r _ [31, 1, 32, 33, 34, 35, 36, 11, 37, 2, 24, 25, 26, 17, 27, 19, 38, 39, 40, 41, 42, 43, 14, 15, 16, 18, 44, 45, 46, 47, 48, 49, 50, 51, 52, 53, 54, 55, 56, 57, 58, 59, 60, 61, 62] (by decide +kernel) (by decide +kernel)
set_option maxRecDepth 20000 in
theorem gX0_cutFile_X0_giveBack : GoodIn wsX0_cutFile (wsV RX0 69 RX0 yX0_giveBack wsX0_giveBack) := goodIn_app (goodIn_of _ (by decide +kernel)) ggX0_cutFile_X0_giveBack
set_option maxRecDepth 20000 in
theorem ggX0_cutFile_X0_freeFrom : GoodIn wsX0_cutFile wsX0_freeFrom := goodIn_r _ [41, 42, 43, 2, 14, 15, 16, 17, 18, 19, 24, 25, 26, 27, 44, 45, 46, 47, 52, 53, 54, 55, 56, 57, 58, 59, 60, 61, 62] (by decide +kernel) (by decide +kernel)
set_option maxRecDepth 20000 in
theorem gX0_cutFile_X0_freeFrom : GoodIn wsX0_cutFile (wsV RX0 75 RX0 yX0_freeFrom wsX0_freeFrom) := goodIn_app (goodIn_of _ (by decide +kernel)) ggX0_cutFile_X0_freeFrom
set_option maxRecDepth 20000 in
theorem ggX0_cutFile_X3_put : GoodIn wsX0_cutFile wsX3_put := goodIn_r _ [47, 19, 62] (by decide +kernel) (by decide +kernel)
set_option maxRecDepth 20000 in
theorem gX0_cutFile_X3_put : GoodIn wsX0_cutFile (wsV RX0 47 RX3 yX3_put wsX3_put) := goodIn_app (goodIn_of _ (by decide +kernel)) ggX0_cutFile_X3_put
theorem dX0_cutFile_0 : decode cX0_cutFile 0 = .ok (.aload_n 0, 1) := by decide +kernel
theorem dX0_cutFile_1 : decode cX0_cutFile 1 = .ok (.iload_n 1, 1) := by decide +kernel
theorem dX0_cutFile_2 : decode cX0_cutFile 2 = .ok (.invokevirtual 58, 3) := by decide +kernel
theorem dX0_cutFile_5 : decode cX0_cutFile 5 = .ok (.ifCond .ne 5, 3) := by decide +kernel
theorem dX0_cutFile_8 : decode cX0_cutFile 8 = .ok (.iconst (-1), 1) := by decide +kernel
theorem dX0_cutFile_9 : decode cX0_cutFile 9 = .ok (.ireturn, 1) := by decide +kernel
theorem dX0_cutFile_10 : decode cX0_cutFile 10 = .ok (.iload_n 2, 1) := by decide +kernel
theorem dX0_cutFile_11 : decode cX0_cutFile 11 = .ok (.ifCond .lt 9, 3) := by decide +kernel
theorem dX0_cutFile_14 : decode cX0_cutFile 14 = .ok (.iload_n 2, 1) := by decide +kernel
theorem dX0_cutFile_15 : decode cX0_cutFile 15 = .ok (.bipush 64, 2) := by decide +kernel
theorem dX0_cutFile_17 : decode cX0_cutFile 17 = .ok (.if_icmp .le 6, 3) := by decide +kernel
theorem dX0_cutFile_20 : decode cX0_cutFile 20 = .ok (.bipush (-2), 2) := by decide +kernel
theorem dX0_cutFile_22 : decode cX0_cutFile 22 = .ok (.ireturn, 1) := by decide +kernel
theorem dX0_cutFile_23 : decode cX0_cutFile 23 = .ok (.aload_n 0, 1) := by decide +kernel
theorem dX0_cutFile_24 : decode cX0_cutFile 24 = .ok (.iload_n 1, 1) := by decide +kernel
theorem dX0_cutFile_25 : decode cX0_cutFile 25 = .ok (.invokevirtual 62, 3) := by decide +kernel
theorem dX0_cutFile_28 : decode cX0_cutFile 28 = .ok (.ifCond .eq 15, 3) := by decide +kernel
theorem dX0_cutFile_31 : decode cX0_cutFile 31 = .ok (.iload_n 2, 1) := by decide +kernel
theorem dX0_cutFile_32 : decode cX0_cutFile 32 = .ok (.aload_n 0, 1) := by decide +kernel
theorem dX0_cutFile_33 : decode cX0_cutFile 33 = .ok (.getfield 32, 3) := by decide +kernel
theorem dX0_cutFile_36 : decode cX0_cutFile 36 = .ok (.iload_n 1, 1) := by decide +kernel
theorem dX0_cutFile_37 : decode cX0_cutFile 37 = .ok (.invokevirtual 72, 3) := by decide +kernel
theorem dX0_cutFile_40 : decode cX0_cutFile 40 = .ok (.if_icmp .le 6, 3) := by decide +kernel
theorem dX0_cutFile_43 : decode cX0_cutFile 43 = .ok (.bipush (-4), 2) := by decide +kernel
theorem dX0_cutFile_45 : decode cX0_cutFile 45 = .ok (.ireturn, 1) := by decide +kernel
theorem dX0_cutFile_46 : decode cX0_cutFile 46 = .ok (.aload_n 0, 1) := by decide +kernel
theorem dX0_cutFile_47 : decode cX0_cutFile 47 = .ok (.getfield 29, 3) := by decide +kernel
theorem dX0_cutFile_50 : decode cX0_cutFile 50 = .ok (.iload_n 1, 1) := by decide +kernel
theorem dX0_cutFile_51 : decode cX0_cutFile 51 = .ok (.invokevirtual 72, 3) := by decide +kernel
theorem dX0_cutFile_54 : decode cX0_cutFile 54 = .ok (.iload_n 2, 1) := by decide +kernel
theorem dX0_cutFile_55 : decode cX0_cutFile 55 = .ok (.isub, 1) := by decide +kernel
theorem dX0_cutFile_56 : decode cX0_cutFile 56 = .ok (.istore_n 3, 1) := by decide +kernel
theorem dX0_cutFile_57 : decode cX0_cutFile 57 = .ok (.aload_n 0, 1) := by decide +kernel
theorem dX0_cutFile_58 : decode cX0_cutFile 58 = .ok (.iload_n 1, 1) := by decide +kernel
theorem dX0_cutFile_59 : decode cX0_cutFile 59 = .ok (.invokevirtual 69, 3) := by decide +kernel
theorem dX0_cutFile_62 : decode cX0_cutFile 62 = .ok (.pop, 1) := by decide +kernel
theorem dX0_cutFile_63 : decode cX0_cutFile 63 = .ok (.aload_n 0, 1) := by decide +kernel
theorem dX0_cutFile_64 : decode cX0_cutFile 64 = .ok (.iload_n 1, 1) := by decide +kernel
theorem dX0_cutFile_65 : decode cX0_cutFile 65 = .ok (.iload_n 2, 1) := by decide +kernel
theorem dX0_cutFile_66 : decode cX0_cutFile 66 = .ok (.invokevirtual 75, 3) := by decide +kernel
theorem dX0_cutFile_69 : decode cX0_cutFile 69 = .ok (.aload_n 0, 1) := by decide +kernel
theorem dX0_cutFile_70 : decode cX0_cutFile 70 = .ok (.getfield 32, 3) := by decide +kernel
theorem dX0_cutFile_73 : decode cX0_cutFile 73 = .ok (.iload_n 1, 1) := by decide +kernel
theorem dX0_cutFile_74 : decode cX0_cutFile 74 = .ok (.iload_n 2, 1) := by decide +kernel
theorem dX0_cutFile_75 : decode cX0_cutFile 75 = .ok (.invokevirtual 47, 3) := by decide +kernel
theorem dX0_cutFile_78 : decode cX0_cutFile 78 = .ok (.aload_n 0, 1) := by decide +kernel
theorem dX0_cutFile_79 : decode cX0_cutFile 79 = .ok (.getfield 35, 3) := by decide +kernel
theorem dX0_cutFile_82 : decode cX0_cutFile 82 = .ok (.iload_n 1, 1) := by decide +kernel
theorem dX0_cutFile_83 : decode cX0_cutFile 83 = .ok (.aload_n 0, 1) := by decide +kernel
theorem dX0_cutFile_84 : decode cX0_cutFile 84 = .ok (.getfield 35, 3) := by decide +kernel
theorem dX0_cutFile_87 : decode cX0_cutFile 87 = .ok (.iload_n 1, 1) := by decide +kernel
theorem dX0_cutFile_88 : decode cX0_cutFile 88 = .ok (.invokevirtual 72, 3) := by decide +kernel
theorem dX0_cutFile_91 : decode cX0_cutFile 91 = .ok (.iload_n 2, 1) := by decide +kernel
theorem dX0_cutFile_92 : decode cX0_cutFile 92 = .ok (.invokestatic 98, 3) := by decide +kernel
theorem dX0_cutFile_95 : decode cX0_cutFile 95 = .ok (.invokevirtual 47, 3) := by decide +kernel
theorem dX0_cutFile_98 : decode cX0_cutFile 98 = .ok (.iload_n 3, 1) := by decide +kernel
theorem dX0_cutFile_99 : decode cX0_cutFile 99 = .ok (.ireturn, 1) := by decide +kernel
set_option maxRecDepth 20000 in
theorem ggX0_crashAll_X0_isFile : GoodIn wsX0_crashAll wsX0_isFile := goodIn_r _ [10, 4, 11, 12, 13, 14, 15, 16, 29, 30, 31, 32, 33, 34, 35, 36, 37, 38, 39] (by decide +kernel) (by decide +kernel)
set_option maxRecDepth 20000 in
theorem gX0_crashAll_X0_isFile : GoodIn wsX0_crashAll (wsV RX0 58 RX0 yX0_isFile wsX0_isFile) := goodIn_app (goodIn_of _ (by decide +kernel)) ggX0_crashAll_X0_isFile
set_option maxRecDepth 20000 in
theorem ggX0_crashAll_X3_at : GoodIn wsX0_crashAll wsX3_at := goodIn_r _ [20, 16, 39] (by decide +kernel) (by decide +kernel)
set_option maxRecDepth 20000 in
theorem gX0_crashAll_X3_at : GoodIn wsX0_crashAll (wsV RX0 72 RX3 yX3_at wsX3_at) := goodIn_app (goodIn_of _ (by decide +kernel)) ggX0_crashAll_X3_at
set_option maxRecDepth 20000 in
theorem ggX0_crashAll_X3_put : GoodIn wsX0_crashAll wsX3_put := goodIn_r _ [24, 16, 39] (by decide +kernel) (by decide +kernel)
set_option maxRecDepth 20000 in
theorem gX0_crashAll_X3_put : GoodIn wsX0_crashAll (wsV RX0 47 RX3 yX3_put wsX3_put) := goodIn_app (goodIn_of _ (by decide +kernel)) ggX0_crashAll_X3_put
set_option maxRecDepth 20000 in
theorem ggX0_crashAll_X3_grow : GoodIn wsX0_crashAll wsX3_grow := goodIn_r _ [28, 16, 39] (by decide +kernel) (by decide +kernel)
set_option maxRecDepth 20000 in
theorem gX0_crashAll_X3_grow : GoodIn wsX0_crashAll (wsV RX0 104 RX3 yX3_grow wsX3_grow) := goodIn_app (goodIn_of _ (by decide +kernel)) ggX0_crashAll_X3_grow
theorem dX0_crashAll_0 : decode cX0_crashAll 0 = .ok (.iconst 0, 1) := by decide +kernel
theorem dX0_crashAll_1 : decode cX0_crashAll 1 = .ok (.istore_n 1, 1) := by decide +kernel
theorem dX0_crashAll_2 : decode cX0_crashAll 2 = .ok (.iconst 0, 1) := by decide +kernel
theorem dX0_crashAll_3 : decode cX0_crashAll 3 = .ok (.istore_n 2, 1) := by decide +kernel
theorem dX0_crashAll_4 : decode cX0_crashAll 4 = .ok (.iload_n 2, 1) := by decide +kernel
theorem dX0_crashAll_5 : decode cX0_crashAll 5 = .ok (.bipush 8, 2) := by decide +kernel
theorem dX0_crashAll_7 : decode cX0_crashAll 7 = .ok (.if_icmp .ge 71, 3) := by decide +kernel
theorem dX0_crashAll_10 : decode cX0_crashAll 10 = .ok (.aload_n 0, 1) := by decide +kernel
theorem dX0_crashAll_11 : decode cX0_crashAll 11 = .ok (.iload_n 2, 1) := by decide +kernel
theorem dX0_crashAll_12 : decode cX0_crashAll 12 = .ok (.invokevirtual 58, 3) := by decide +kernel
theorem dX0_crashAll_15 : decode cX0_crashAll 15 = .ok (.ifCond .eq 57, 3) := by decide +kernel
theorem dX0_crashAll_18 : decode cX0_crashAll 18 = .ok (.iload_n 1, 1) := by decide +kernel
theorem dX0_crashAll_19 : decode cX0_crashAll 19 = .ok (.aload_n 0, 1) := by decide +kernel
theorem dX0_crashAll_20 : decode cX0_crashAll 20 = .ok (.getfield 32, 3) := by decide +kernel
theorem dX0_crashAll_23 : decode cX0_crashAll 23 = .ok (.iload_n 2, 1) := by decide +kernel
theorem dX0_crashAll_24 : decode cX0_crashAll 24 = .ok (.invokevirtual 72, 3) := by decide +kernel
theorem dX0_crashAll_27 : decode cX0_crashAll 27 = .ok (.aload_n 0, 1) := by decide +kernel
theorem dX0_crashAll_28 : decode cX0_crashAll 28 = .ok (.getfield 35, 3) := by decide +kernel
theorem dX0_crashAll_31 : decode cX0_crashAll 31 = .ok (.iload_n 2, 1) := by decide +kernel
theorem dX0_crashAll_32 : decode cX0_crashAll 32 = .ok (.invokevirtual 72, 3) := by decide +kernel
theorem dX0_crashAll_35 : decode cX0_crashAll 35 = .ok (.isub, 1) := by decide +kernel
theorem dX0_crashAll_36 : decode cX0_crashAll 36 = .ok (.iadd, 1) := by decide +kernel
theorem dX0_crashAll_37 : decode cX0_crashAll 37 = .ok (.istore_n 1, 1) := by decide +kernel
theorem dX0_crashAll_38 : decode cX0_crashAll 38 = .ok (.aload_n 0, 1) := by decide +kernel
theorem dX0_crashAll_39 : decode cX0_crashAll 39 = .ok (.getfield 32, 3) := by decide +kernel
theorem dX0_crashAll_42 : decode cX0_crashAll 42 = .ok (.iload_n 2, 1) := by decide +kernel
theorem dX0_crashAll_43 : decode cX0_crashAll 43 = .ok (.aload_n 0, 1) := by decide +kernel
theorem dX0_crashAll_44 : decode cX0_crashAll 44 = .ok (.getfield 35, 3) := by decide +kernel
theorem dX0_crashAll_47 : decode cX0_crashAll 47 = .ok (.iload_n 2, 1) := by decide +kernel
theorem dX0_crashAll_48 : decode cX0_crashAll 48 = .ok (.invokevirtual 72, 3) := by decide +kernel
theorem dX0_crashAll_51 : decode cX0_crashAll 51 = .ok (.invokevirtual 47, 3) := by decide +kernel
theorem dX0_crashAll_54 : decode cX0_crashAll 54 = .ok (.aload_n 0, 1) := by decide +kernel
theorem dX0_crashAll_55 : decode cX0_crashAll 55 = .ok (.getfield 38, 3) := by decide +kernel
theorem dX0_crashAll_58 : decode cX0_crashAll 58 = .ok (.iload_n 2, 1) := by decide +kernel
theorem dX0_crashAll_59 : decode cX0_crashAll 59 = .ok (.iconst 1, 1) := by decide +kernel
theorem dX0_crashAll_60 : decode cX0_crashAll 60 = .ok (.invokevirtual 47, 3) := by decide +kernel
theorem dX0_crashAll_63 : decode cX0_crashAll 63 = .ok (.aload_n 0, 1) := by decide +kernel
theorem dX0_crashAll_64 : decode cX0_crashAll 64 = .ok (.getfield 26, 3) := by decide +kernel
theorem dX0_crashAll_67 : decode cX0_crashAll 67 = .ok (.iload_n 2, 1) := by decide +kernel
theorem dX0_crashAll_68 : decode cX0_crashAll 68 = .ok (.iconst 1, 1) := by decide +kernel
theorem dX0_crashAll_69 : decode cX0_crashAll 69 = .ok (.invokevirtual 47, 3) := by decide +kernel
theorem dX0_crashAll_72 : decode cX0_crashAll 72 = .ok (.iinc 2 1, 3) := by decide +kernel
theorem dX0_crashAll_75 : decode cX0_crashAll 75 = .ok (.goto (-71), 3) := by decide +kernel
theorem dX0_crashAll_78 : decode cX0_crashAll 78 = .ok (.aload_n 0, 1) := by decide +kernel
theorem dX0_crashAll_79 : decode cX0_crashAll 79 = .ok (.getfield 44, 3) := by decide +kernel
theorem dX0_crashAll_82 : decode cX0_crashAll 82 = .ok (.iconst 3, 1) := by decide +kernel
theorem dX0_crashAll_83 : decode cX0_crashAll 83 = .ok (.iload_n 1, 1) := by decide +kernel
theorem dX0_crashAll_84 : decode cX0_crashAll 84 = .ok (.invokevirtual 104, 3) := by decide +kernel
theorem dX0_crashAll_87 : decode cX0_crashAll 87 = .ok (.iload_n 1, 1) := by decide +kernel
theorem dX0_crashAll_88 : decode cX0_crashAll 88 = .ok (.ireturn, 1) := by decide +kernel
set_option maxRecDepth 20000 in
theorem ggX0_mendAll_X3_holds : GoodIn wsX0_mendAll wsX3_holds := goodIn_r _ [6, 7, 49] (by decide +kernel) (by decide +kernel)
set_option maxRecDepth 20000 in
theorem gX0_mendAll_X3_holds : GoodIn wsX0_mendAll (wsV RX0 54 RX3 yX3_holds wsX3_holds) := goodIn_app (goodIn_of _ (by decide +kernel)) ggX0_mendAll_X3_holds
set_option maxRecDepth 20000 in
theorem ggX0_mendAll_X0_giveBack : GoodIn wsX0_mendAll wsX0_giveBack := goodIn_r _ [12, 13, 14, 15, 16, 17, 18, 11, 19, 20, 21, 22, 23, 5, 24, 7, 25, 26, 27, 28, 29, 30, 2, 3, 4, 6, 31, 32, 33, 34, 35, 36, 37, 38, 39, 40, 41, 42, 43, 44, 45, 46, 47, 48, 49] (by decide +kernel) (by decide +kernel)
set_option maxRecDepth 20000 in
theorem gX0_mendAll_X0_giveBack : GoodIn wsX0_mendAll (wsV RX0 69 RX0 yX0_giveBack wsX0_giveBack) := goodIn_app (goodIn_of _ (by decide +kernel)) ggX0_mendAll_X0_giveBack
theorem dX0_mendAll_0 : decode cX0_mendAll 0 = .ok (.iconst 0, 1) := by decide +kernel
theorem dX0_mendAll_1 : decode cX0_mendAll 1 = .ok (.istore_n 1, 1) := by decide +kernel
theorem dX0_mendAll_2 : decode cX0_mendAll 2 = .ok (.iconst 0, 1) := by decide +kernel
theorem dX0_mendAll_3 : decode cX0_mendAll 3 = .ok (.istore_n 2, 1) := by decide +kernel
theorem dX0_mendAll_4 : decode cX0_mendAll 4 = .ok (.iload_n 2, 1) := by decide +kernel
theorem dX0_mendAll_5 : decode cX0_mendAll 5 = .ok (.bipush 8, 2) := by decide +kernel
theorem dX0_mendAll_7 : decode cX0_mendAll 7 = .ok (.if_icmp .ge 29, 3) := by decide +kernel
theorem dX0_mendAll_10 : decode cX0_mendAll 10 = .ok (.aload_n 0, 1) := by decide +kernel
theorem dX0_mendAll_11 : decode cX0_mendAll 11 = .ok (.getfield 26, 3) := by decide +kernel
theorem dX0_mendAll_14 : decode cX0_mendAll 14 = .ok (.iload_n 2, 1) := by decide +kernel
theorem dX0_mendAll_15 : decode cX0_mendAll 15 = .ok (.iconst 1, 1) := by decide +kernel
theorem dX0_mendAll_16 : decode cX0_mendAll 16 = .ok (.invokevirtual 54, 3) := by decide +kernel
theorem dX0_mendAll_19 : decode cX0_mendAll 19 = .ok (.ifCond .eq 11, 3) := by decide +kernel
theorem dX0_mendAll_22 : decode cX0_mendAll 22 = .ok (.iload_n 1, 1) := by decide +kernel
theorem dX0_mendAll_23 : decode cX0_mendAll 23 = .ok (.aload_n 0, 1) := by decide +kernel
theorem dX0_mendAll_24 : decode cX0_mendAll 24 = .ok (.iload_n 2, 1) := by decide +kernel
theorem dX0_mendAll_25 : decode cX0_mendAll 25 = .ok (.invokevirtual 69, 3) := by decide +kernel
theorem dX0_mendAll_28 : decode cX0_mendAll 28 = .ok (.iadd, 1) := by decide +kernel
theorem dX0_mendAll_29 : decode cX0_mendAll 29 = .ok (.istore_n 1, 1) := by decide +kernel
theorem dX0_mendAll_30 : decode cX0_mendAll 30 = .ok (.iinc 2 1, 3) := by decide +kernel
theorem dX0_mendAll_33 : decode cX0_mendAll 33 = .ok (.goto (-29), 3) := by decide +kernel
theorem dX0_mendAll_36 : decode cX0_mendAll 36 = .ok (.iload_n 1, 1) := by decide +kernel
theorem dX0_mendAll_37 : decode cX0_mendAll 37 = .ok (.ireturn, 1) := by decide +kernel
set_option maxRecDepth 20000 in
theorem ggX0_changeSetting_X3_at : GoodIn wsX0_changeSetting wsX3_at := goodIn_r _ [6, 7, 22] (by decide +kernel) (by decide +kernel)
set_option maxRecDepth 20000 in
theorem gX0_changeSetting_X3_at : GoodIn wsX0_changeSetting (wsV RX0 72 RX3 yX3_at wsX3_at) := goodIn_app (goodIn_of _ (by decide +kernel)) ggX0_changeSetting_X3_at
set_option maxRecDepth 20000 in
theorem ggX0_changeSetting_X3_put : GoodIn wsX0_changeSetting wsX3_put := goodIn_r _ [11, 7, 22] (by decide +kernel) (by decide +kernel)
set_option maxRecDepth 20000 in
theorem gX0_changeSetting_X3_put : GoodIn wsX0_changeSetting (wsV RX0 47 RX3 yX3_put wsX3_put) := goodIn_app (goodIn_of _ (by decide +kernel)) ggX0_changeSetting_X3_put
theorem dX0_changeSetting_0 : decode cX0_changeSetting 0 = .ok (.iload_n 1, 1) := by decide +kernel
theorem dX0_changeSetting_1 : decode cX0_changeSetting 1 = .ok (.ifCond .eq 10, 3) := by decide +kernel
theorem dX0_changeSetting_4 : decode cX0_changeSetting 4 = .ok (.iload_n 1, 1) := by decide +kernel
theorem dX0_changeSetting_5 : decode cX0_changeSetting 5 = .ok (.iconst 1, 1) := by decide +kernel
theorem dX0_changeSetting_6 : decode cX0_changeSetting 6 = .ok (.if_icmp .eq 5, 3) := by decide +kernel
theorem dX0_changeSetting_9 : decode cX0_changeSetting 9 = .ok (.iconst (-1), 1) := by decide +kernel
theorem dX0_changeSetting_10 : decode cX0_changeSetting 10 = .ok (.ireturn, 1) := by decide +kernel
theorem dX0_changeSetting_11 : decode cX0_changeSetting 11 = .ok (.iload_n 1, 1) := by decide +kernel
theorem dX0_changeSetting_12 : decode cX0_changeSetting 12 = .ok (.ifCond .ne 8, 3) := by decide +kernel
theorem dX0_changeSetting_15 : decode cX0_changeSetting 15 = .ok (.bipush 16, 2) := by decide +kernel
theorem dX0_changeSetting_17 : decode cX0_changeSetting 17 = .ok (.goto 4, 3) := by decide +kernel
theorem dX0_changeSetting_20 : decode cX0_changeSetting 20 = .ok (.iconst 1, 1) := by decide +kernel
theorem dX0_changeSetting_21 : decode cX0_changeSetting 21 = .ok (.istore_n 3, 1) := by decide +kernel
theorem dX0_changeSetting_22 : decode cX0_changeSetting 22 = .ok (.iload_n 2, 1) := by decide +kernel
theorem dX0_changeSetting_23 : decode cX0_changeSetting 23 = .ok (.ifCond .lt 8, 3) := by decide +kernel
theorem dX0_changeSetting_26 : decode cX0_changeSetting 26 = .ok (.iload_n 2, 1) := by decide +kernel
theorem dX0_changeSetting_27 : decode cX0_changeSetting 27 = .ok (.iload_n 3, 1) := by decide +kernel
theorem dX0_changeSetting_28 : decode cX0_changeSetting 28 = .ok (.if_icmp .le 6, 3) := by decide +kernel
theorem dX0_changeSetting_31 : decode cX0_changeSetting 31 = .ok (.bipush (-2), 2) := by decide +kernel
theorem dX0_changeSetting_33 : decode cX0_changeSetting 33 = .ok (.ireturn, 1) := by decide +kernel
theorem dX0_changeSetting_34 : decode cX0_changeSetting 34 = .ok (.aload_n 0, 1) := by decide +kernel
theorem dX0_changeSetting_35 : decode cX0_changeSetting 35 = .ok (.getfield 41, 3) := by decide +kernel
theorem dX0_changeSetting_38 : decode cX0_changeSetting 38 = .ok (.iload_n 1, 1) := by decide +kernel
theorem dX0_changeSetting_39 : decode cX0_changeSetting 39 = .ok (.invokevirtual 72, 3) := by decide +kernel
theorem dX0_changeSetting_42 : decode cX0_changeSetting 42 = .ok (.istore 4, 2) := by decide +kernel
theorem dX0_changeSetting_44 : decode cX0_changeSetting 44 = .ok (.aload_n 0, 1) := by decide +kernel
theorem dX0_changeSetting_45 : decode cX0_changeSetting 45 = .ok (.getfield 41, 3) := by decide +kernel
theorem dX0_changeSetting_48 : decode cX0_changeSetting 48 = .ok (.iload_n 1, 1) := by decide +kernel
theorem dX0_changeSetting_49 : decode cX0_changeSetting 49 = .ok (.iload_n 2, 1) := by decide +kernel
theorem dX0_changeSetting_50 : decode cX0_changeSetting 50 = .ok (.invokevirtual 47, 3) := by decide +kernel
theorem dX0_changeSetting_53 : decode cX0_changeSetting 53 = .ok (.iload 4, 2) := by decide +kernel
theorem dX0_changeSetting_55 : decode cX0_changeSetting 55 = .ok (.ireturn, 1) := by decide +kernel
set_option maxRecDepth 20000 in
theorem ggX0_takeBack_X0_freeBlocks : GoodIn wsX0_takeBack wsX0_freeBlocks := goodIn_r _ [6, 7, 8, 9, 10, 11, 12, 13, 46, 47, 48, 49, 50, 51, 52, 53, 54, 55, 56] (by decide +kernel) (by decide +kernel)
set_option maxRecDepth 20000 in
theorem gX0_takeBack_X0_freeBlocks : GoodIn wsX0_takeBack (wsV RX0 107 RX0 yX0_freeBlocks wsX0_freeBlocks) := goodIn_app (goodIn_of _ (by decide +kernel)) ggX0_takeBack_X0_freeBlocks
set_option maxRecDepth 20000 in
theorem ggX0_takeBack_X0_greatestLender : GoodIn wsX0_takeBack wsX0_greatestLender := goodIn_r _ [17, 18, 19, 20, 5, 21, 22, 23, 24, 25, 26, 11, 27, 13, 46, 47, 48, 49, 50, 51, 52, 53, 54, 55, 56] (by decide +kernel) (by decide +kernel)
set_option maxRecDepth 20000 in
theorem gX0_takeBack_X0_greatestLender : GoodIn wsX0_takeBack (wsV RX0 110 RX0 yX0_greatestLender wsX0_greatestLender) := goodIn_app (goodIn_of _ (by decide +kernel)) ggX0_takeBack_X0_greatestLender
set_option maxRecDepth 20000 in
theorem ggX0_takeBack_X0_giveBack : GoodIn wsX0_takeBack wsX0_giveBack := goodIn_r _ [31, 23, 32, 1, 18, 19, 20, 5, 21, 22, 24, 25, 26, 11, 27, 13, 33, 34, 35, 36, 7, 37, 8, 9, 10, 12, 38, 39, 40, 41, 42, 43, 44, 45, 46, 47, 48, 49, 50, 51, 52, 53, 54, 55, 56] (by decide +kernel) (by decide +kernel)
set_option maxRecDepth 20000 in
theorem gX0_takeBack_X0_giveBack : GoodIn wsX0_takeBack (wsV RX0 69 RX0 yX0_giveBack wsX0_giveBack) := goodIn_app (goodIn_of _ (by decide +kernel)) ggX0_takeBack_X0_giveBack
set_option maxRecDepth 20000 in
theorem ggX0_takeBack_X3_grow : GoodIn wsX0_takeBack wsX3_grow := goodIn_r _ [45, 13, 56] (by decide +kernel) (by decide +kernel)
set_option maxRecDepth 20000 in
theorem gX0_takeBack_X3_grow : GoodIn wsX0_takeBack (wsV RX0 104 RX3 yX3_grow wsX3_grow) := goodIn_app (goodIn_of _ (by decide +kernel)) ggX0_takeBack_X3_grow
theorem dX0_takeBack_0 : decode cX0_takeBack 0 = .ok (.iconst 0, 1) := by decide +kernel
theorem dX0_takeBack_1 : decode cX0_takeBack 1 = .ok (.istore_n 3, 1) := by decide +kernel
theorem dX0_takeBack_2 : decode cX0_takeBack 2 = .ok (.iload_n 3, 1) := by decide +kernel
theorem dX0_takeBack_3 : decode cX0_takeBack 3 = .ok (.bipush 8, 2) := by decide +kernel
theorem dX0_takeBack_5 : decode cX0_takeBack 5 = .ok (.if_icmp .ge 48, 3) := by decide +kernel
theorem dX0_takeBack_8 : decode cX0_takeBack 8 = .ok (.aload_n 0, 1) := by decide +kernel
theorem dX0_takeBack_9 : decode cX0_takeBack 9 = .ok (.invokevirtual 107, 3) := by decide +kernel
theorem dX0_takeBack_12 : decode cX0_takeBack 12 = .ok (.iload_n 2, 1) := by decide +kernel
theorem dX0_takeBack_13 : decode cX0_takeBack 13 = .ok (.if_icmp .ge 40, 3) := by decide +kernel
theorem dX0_takeBack_16 : decode cX0_takeBack 16 = .ok (.aload_n 0, 1) := by decide +kernel
theorem dX0_takeBack_17 : decode cX0_takeBack 17 = .ok (.iload_n 1, 1) := by decide +kernel
theorem dX0_takeBack_18 : decode cX0_takeBack 18 = .ok (.invokevirtual 110, 3) := by decide +kernel
theorem dX0_takeBack_21 : decode cX0_takeBack 21 = .ok (.istore 4, 2) := by decide +kernel
theorem dX0_takeBack_23 : decode cX0_takeBack 23 = .ok (.iload 4, 2) := by decide +kernel
theorem dX0_takeBack_25 : decode cX0_takeBack 25 = .ok (.bipush (-5), 2) := by decide +kernel
theorem dX0_takeBack_27 : decode cX0_takeBack 27 = .ok (.if_icmp .ne 4, 3) := by decide +kernel
theorem dX0_takeBack_30 : decode cX0_takeBack 30 = .ok (.return_, 1) := by decide +kernel
theorem dX0_takeBack_31 : decode cX0_takeBack 31 = .ok (.aload_n 0, 1) := by decide +kernel
theorem dX0_takeBack_32 : decode cX0_takeBack 32 = .ok (.iload 4, 2) := by decide +kernel
theorem dX0_takeBack_34 : decode cX0_takeBack 34 = .ok (.invokevirtual 69, 3) := by decide +kernel
theorem dX0_takeBack_37 : decode cX0_takeBack 37 = .ok (.pop, 1) := by decide +kernel
theorem dX0_takeBack_38 : decode cX0_takeBack 38 = .ok (.aload_n 0, 1) := by decide +kernel
theorem dX0_takeBack_39 : decode cX0_takeBack 39 = .ok (.getfield 44, 3) := by decide +kernel
theorem dX0_takeBack_42 : decode cX0_takeBack 42 = .ok (.iconst 2, 1) := by decide +kernel
theorem dX0_takeBack_43 : decode cX0_takeBack 43 = .ok (.iconst 1, 1) := by decide +kernel
theorem dX0_takeBack_44 : decode cX0_takeBack 44 = .ok (.invokevirtual 104, 3) := by decide +kernel
theorem dX0_takeBack_47 : decode cX0_takeBack 47 = .ok (.iinc 3 1, 3) := by decide +kernel
theorem dX0_takeBack_50 : decode cX0_takeBack 50 = .ok (.goto (-48), 3) := by decide +kernel
theorem dX0_takeBack_53 : decode cX0_takeBack 53 = .ok (.return_, 1) := by decide +kernel
set_option maxRecDepth 20000 in
theorem ggX0_greatestLender_X0_lentOf : GoodIn wsX0_greatestLender wsX0_lentOf := goodIn_r _ [5, 6, 7, 8, 9, 10, 11, 12, 13, 14, 15, 16, 17, 18, 19, 20, 21, 22, 23, 24] (by decide +kernel) (by decide +kernel)
set_option maxRecDepth 20000 in
theorem gX0_greatestLender_X0_lentOf : GoodIn wsX0_greatestLender (wsV RX0 82 RX0 yX0_lentOf wsX0_lentOf) := goodIn_app (goodIn_of _ (by decide +kernel)) ggX0_greatestLender_X0_lentOf
theorem dX0_greatestLender_0 : decode cX0_greatestLender 0 = .ok (.bipush (-5), 2) := by decide +kernel
theorem dX0_greatestLender_2 : decode cX0_greatestLender 2 = .ok (.istore_n 2, 1) := by decide +kernel
theorem dX0_greatestLender_3 : decode cX0_greatestLender 3 = .ok (.iconst 0, 1) := by decide +kernel
theorem dX0_greatestLender_4 : decode cX0_greatestLender 4 = .ok (.istore_n 3, 1) := by decide +kernel
theorem dX0_greatestLender_5 : decode cX0_greatestLender 5 = .ok (.iconst 0, 1) := by decide +kernel
theorem dX0_greatestLender_6 : decode cX0_greatestLender 6 = .ok (.istore 4, 2) := by decide +kernel
theorem dX0_greatestLender_8 : decode cX0_greatestLender 8 = .ok (.iload 4, 2) := by decide +kernel
theorem dX0_greatestLender_10 : decode cX0_greatestLender 10 = .ok (.bipush 8, 2) := by decide +kernel
theorem dX0_greatestLender_12 : decode cX0_greatestLender 12 = .ok (.if_icmp .ge 35, 3) := by decide +kernel
theorem dX0_greatestLender_15 : decode cX0_greatestLender 15 = .ok (.iload 4, 2) := by decide +kernel
theorem dX0_greatestLender_17 : decode cX0_greatestLender 17 = .ok (.iload_n 1, 1) := by decide +kernel
theorem dX0_greatestLender_18 : decode cX0_greatestLender 18 = .ok (.if_icmp .eq 23, 3) := by decide +kernel
theorem dX0_greatestLender_21 : decode cX0_greatestLender 21 = .ok (.aload_n 0, 1) := by decide +kernel
theorem dX0_greatestLender_22 : decode cX0_greatestLender 22 = .ok (.iload 4, 2) := by decide +kernel
theorem dX0_greatestLender_24 : decode cX0_greatestLender 24 = .ok (.invokevirtual 82, 3) := by decide +kernel
theorem dX0_greatestLender_27 : decode cX0_greatestLender 27 = .ok (.iload_n 3, 1) := by decide +kernel
theorem dX0_greatestLender_28 : decode cX0_greatestLender 28 = .ok (.if_icmp .le 13, 3) := by decide +kernel
theorem dX0_greatestLender_31 : decode cX0_greatestLender 31 = .ok (.iload 4, 2) := by decide +kernel
theorem dX0_greatestLender_33 : decode cX0_greatestLender 33 = .ok (.istore_n 2, 1) := by decide +kernel
theorem dX0_greatestLender_34 : decode cX0_greatestLender 34 = .ok (.aload_n 0, 1) := by decide +kernel
theorem dX0_greatestLender_35 : decode cX0_greatestLender 35 = .ok (.iload 4, 2) := by decide +kernel
theorem dX0_greatestLender_37 : decode cX0_greatestLender 37 = .ok (.invokevirtual 82, 3) := by decide +kernel
theorem dX0_greatestLender_40 : decode cX0_greatestLender 40 = .ok (.istore_n 3, 1) := by decide +kernel
theorem dX0_greatestLender_41 : decode cX0_greatestLender 41 = .ok (.iinc 4 1, 3) := by decide +kernel
theorem dX0_greatestLender_44 : decode cX0_greatestLender 44 = .ok (.goto (-36), 3) := by decide +kernel
theorem dX0_greatestLender_47 : decode cX0_greatestLender 47 = .ok (.iload_n 2, 1) := by decide +kernel
theorem dX0_greatestLender_48 : decode cX0_greatestLender 48 = .ok (.ireturn, 1) := by decide +kernel
set_option maxRecDepth 20000 in
theorem ggX0_lengthen_X3_at : GoodIn wsX0_lengthen wsX3_at := goodIn_r _ [12, 13, 63] (by decide +kernel) (by decide +kernel)
set_option maxRecDepth 20000 in
theorem gX0_lengthen_X3_at : GoodIn wsX0_lengthen (wsV RX0 72 RX3 yX3_at wsX3_at) := goodIn_app (goodIn_of _ (by decide +kernel)) ggX0_lengthen_X3_at
set_option maxRecDepth 20000 in
theorem ggX0_lengthen_X0_freeBlocks : GoodIn wsX0_lengthen wsX0_freeBlocks := goodIn_r _ [18, 19, 20, 21, 22, 11, 23, 13, 53, 54, 55, 56, 57, 58, 59, 60, 61, 62, 63] (by decide +kernel) (by decide +kernel)
set_option maxRecDepth 20000 in
theorem gX0_lengthen_X0_freeBlocks : GoodIn wsX0_lengthen (wsV RX0 107 RX0 yX0_freeBlocks wsX0_freeBlocks) := goodIn_app (goodIn_of _ (by decide +kernel)) ggX0_lengthen_X0_freeBlocks
set_option maxRecDepth 20000 in
theorem ggX0_lengthen_X0_blockAt : GoodIn wsX0_lengthen wsX0_blockAt := goodIn_r _ [27, 19, 28, 20, 21, 22, 11, 23, 13, 53, 54, 55, 56, 57, 58, 59, 60, 61, 62, 63] (by decide +kernel) (by decide +kernel)
set_option maxRecDepth 20000 in
theorem gX0_lengthen_X0_blockAt : GoodIn wsX0_lengthen (wsV RX0 113 RX0 yX0_blockAt wsX0_blockAt) := goodIn_app (goodIn_of _ (by decide +kernel)) ggX0_lengthen_X0_blockAt
set_option maxRecDepth 20000 in
theorem ggX0_lengthen_X0_addFrom : GoodIn wsX0_lengthen wsX0_addFrom := goodIn_r _ [32, 19, 28, 7, 20, 21, 22, 11, 23, 13, 33, 34, 35, 36, 8, 9, 10, 12, 37, 38, 39, 40, 53, 54, 55, 56, 57, 58, 59, 60, 61, 62, 63] (by decide +kernel) (by decide +kernel)
set_option maxRecDepth 20000 in
theorem gX0_lengthen_X0_addFrom : GoodIn wsX0_lengthen (wsV RX0 116 RX0 yX0_addFrom wsX0_addFrom) := goodIn_app (goodIn_of _ (by decide +kernel)) ggX0_lengthen_X0_addFrom
set_option maxRecDepth 20000 in
theorem ggX0_lengthen_X0_chosenRun : GoodIn wsX0_lengthen wsX0_chosenRun := goodIn_r _ [44, 45, 46, 47, 17, 48, 19, 20, 21, 22, 11, 23, 13, 49, 50, 51, 52, 2, 53, 54, 55, 56, 57, 58, 59, 60, 61, 62, 63] (by decide +kernel) (by decide +kernel)
set_option maxRecDepth 20000 in
theorem gX0_lengthen_X0_chosenRun : GoodIn wsX0_lengthen (wsV RX0 120 RX0 yX0_chosenRun wsX0_chosenRun) := goodIn_app (goodIn_of _ (by decide +kernel)) ggX0_lengthen_X0_chosenRun
set_option maxRecDepth 20000 in
theorem ggX0_lengthen_X3_put : GoodIn wsX0_lengthen wsX3_put := goodIn_r _ [36, 13, 63] (by decide +kernel) (by decide +kernel)
set_option maxRecDepth 20000 in
theorem gX0_lengthen_X3_put : GoodIn wsX0_lengthen (wsV RX0 47 RX3 yX3_put wsX3_put) := goodIn_app (goodIn_of _ (by decide +kernel)) ggX0_lengthen_X3_put
theorem dX0_lengthen_0 : decode cX0_lengthen 0 = .ok (.aload_n 0, 1) := by decide +kernel
theorem dX0_lengthen_1 : decode cX0_lengthen 1 = .ok (.getfield 38, 3) := by decide +kernel
theorem dX0_lengthen_4 : decode cX0_lengthen 4 = .ok (.iload_n 1, 1) := by decide +kernel
theorem dX0_lengthen_5 : decode cX0_lengthen 5 = .ok (.invokevirtual 72, 3) := by decide +kernel
theorem dX0_lengthen_8 : decode cX0_lengthen 8 = .ok (.istore_n 3, 1) := by decide +kernel
theorem dX0_lengthen_9 : decode cX0_lengthen 9 = .ok (.iload_n 2, 1) := by decide +kernel
theorem dX0_lengthen_10 : decode cX0_lengthen 10 = .ok (.iload_n 3, 1) := by decide +kernel
theorem dX0_lengthen_11 : decode cX0_lengthen 11 = .ok (.aload_n 0, 1) := by decide +kernel
theorem dX0_lengthen_12 : decode cX0_lengthen 12 = .ok (.getfield 41, 3) := by decide +kernel
theorem dX0_lengthen_15 : decode cX0_lengthen 15 = .ok (.iconst 0, 1) := by decide +kernel
theorem dX0_lengthen_16 : decode cX0_lengthen 16 = .ok (.invokevirtual 72, 3) := by decide +kernel
theorem dX0_lengthen_19 : decode cX0_lengthen 19 = .ok (.invokestatic 98, 3) := by decide +kernel
theorem dX0_lengthen_22 : decode cX0_lengthen 22 = .ok (.iadd, 1) := by decide +kernel
theorem dX0_lengthen_23 : decode cX0_lengthen 23 = .ok (.istore 4, 2) := by decide +kernel
theorem dX0_lengthen_25 : decode cX0_lengthen 25 = .ok (.iload 4, 2) := by decide +kernel
theorem dX0_lengthen_27 : decode cX0_lengthen 27 = .ok (.aload_n 0, 1) := by decide +kernel
theorem dX0_lengthen_28 : decode cX0_lengthen 28 = .ok (.invokevirtual 107, 3) := by decide +kernel
theorem dX0_lengthen_31 : decode cX0_lengthen 31 = .ok (.invokestatic 98, 3) := by decide +kernel
theorem dX0_lengthen_34 : decode cX0_lengthen 34 = .ok (.istore 5, 2) := by decide +kernel
theorem dX0_lengthen_36 : decode cX0_lengthen 36 = .ok (.iload 5, 2) := by decide +kernel
theorem dX0_lengthen_38 : decode cX0_lengthen 38 = .ok (.istore 6, 2) := by decide +kernel
theorem dX0_lengthen_40 : decode cX0_lengthen 40 = .ok (.aload_n 0, 1) := by decide +kernel
theorem dX0_lengthen_41 : decode cX0_lengthen 41 = .ok (.getfield 29, 3) := by decide +kernel
theorem dX0_lengthen_44 : decode cX0_lengthen 44 = .ok (.iload_n 1, 1) := by decide +kernel
theorem dX0_lengthen_45 : decode cX0_lengthen 45 = .ok (.invokevirtual 72, 3) := by decide +kernel
theorem dX0_lengthen_48 : decode cX0_lengthen 48 = .ok (.ifCond .le 36, 3) := by decide +kernel
theorem dX0_lengthen_51 : decode cX0_lengthen 51 = .ok (.aload_n 0, 1) := by decide +kernel
theorem dX0_lengthen_52 : decode cX0_lengthen 52 = .ok (.iload_n 1, 1) := by decide +kernel
theorem dX0_lengthen_53 : decode cX0_lengthen 53 = .ok (.aload_n 0, 1) := by decide +kernel
theorem dX0_lengthen_54 : decode cX0_lengthen 54 = .ok (.getfield 29, 3) := by decide +kernel
theorem dX0_lengthen_57 : decode cX0_lengthen 57 = .ok (.iload_n 1, 1) := by decide +kernel
theorem dX0_lengthen_58 : decode cX0_lengthen 58 = .ok (.invokevirtual 72, 3) := by decide +kernel
theorem dX0_lengthen_61 : decode cX0_lengthen 61 = .ok (.iconst 1, 1) := by decide +kernel
theorem dX0_lengthen_62 : decode cX0_lengthen 62 = .ok (.isub, 1) := by decide +kernel
theorem dX0_lengthen_63 : decode cX0_lengthen 63 = .ok (.invokevirtual 113, 3) := by decide +kernel
theorem dX0_lengthen_66 : decode cX0_lengthen 66 = .ok (.istore 7, 2) := by decide +kernel
theorem dX0_lengthen_68 : decode cX0_lengthen 68 = .ok (.iload 6, 2) := by decide +kernel
theorem dX0_lengthen_70 : decode cX0_lengthen 70 = .ok (.aload_n 0, 1) := by decide +kernel
theorem dX0_lengthen_71 : decode cX0_lengthen 71 = .ok (.iload_n 1, 1) := by decide +kernel
theorem dX0_lengthen_72 : decode cX0_lengthen 72 = .ok (.iload 7, 2) := by decide +kernel
theorem dX0_lengthen_74 : decode cX0_lengthen 74 = .ok (.iconst 1, 1) := by decide +kernel
theorem dX0_lengthen_75 : decode cX0_lengthen 75 = .ok (.iadd, 1) := by decide +kernel
theorem dX0_lengthen_76 : decode cX0_lengthen 76 = .ok (.iload 6, 2) := by decide +kernel
theorem dX0_lengthen_78 : decode cX0_lengthen 78 = .ok (.invokevirtual 116, 3) := by decide +kernel
theorem dX0_lengthen_81 : decode cX0_lengthen 81 = .ok (.isub, 1) := by decide +kernel
theorem dX0_lengthen_82 : decode cX0_lengthen 82 = .ok (.istore 6, 2) := by decide +kernel
theorem dX0_lengthen_84 : decode cX0_lengthen 84 = .ok (.iconst 0, 1) := by decide +kernel
theorem dX0_lengthen_85 : decode cX0_lengthen 85 = .ok (.istore 7, 2) := by decide +kernel
theorem dX0_lengthen_87 : decode cX0_lengthen 87 = .ok (.iload 7, 2) := by decide +kernel
theorem dX0_lengthen_89 : decode cX0_lengthen 89 = .ok (.bipush 64, 2) := by decide +kernel
theorem dX0_lengthen_91 : decode cX0_lengthen 91 = .ok (.if_icmp .ge 32, 3) := by decide +kernel
theorem dX0_lengthen_94 : decode cX0_lengthen 94 = .ok (.iload 6, 2) := by decide +kernel
theorem dX0_lengthen_96 : decode cX0_lengthen 96 = .ok (.ifCond .le 27, 3) := by decide +kernel
theorem dX0_lengthen_99 : decode cX0_lengthen 99 = .ok (.iload 6, 2) := by decide +kernel
theorem dX0_lengthen_101 : decode cX0_lengthen 101 = .ok (.aload_n 0, 1) := by decide +kernel
theorem dX0_lengthen_102 : decode cX0_lengthen 102 = .ok (.iload_n 1, 1) := by decide +kernel
theorem dX0_lengthen_103 : decode cX0_lengthen 103 = .ok (.aload_n 0, 1) := by decide +kernel
theorem dX0_lengthen_104 : decode cX0_lengthen 104 = .ok (.iload 6, 2) := by decide +kernel
theorem dX0_lengthen_106 : decode cX0_lengthen 106 = .ok (.invokevirtual 120, 3) := by decide +kernel
theorem dX0_lengthen_109 : decode cX0_lengthen 109 = .ok (.iload 6, 2) := by decide +kernel
theorem dX0_lengthen_111 : decode cX0_lengthen 111 = .ok (.invokevirtual 116, 3) := by decide +kernel
theorem dX0_lengthen_114 : decode cX0_lengthen 114 = .ok (.isub, 1) := by decide +kernel
theorem dX0_lengthen_115 : decode cX0_lengthen 115 = .ok (.istore 6, 2) := by decide +kernel
theorem dX0_lengthen_117 : decode cX0_lengthen 117 = .ok (.iinc 7 1, 3) := by decide +kernel
theorem dX0_lengthen_120 : decode cX0_lengthen 120 = .ok (.goto (-33), 3) := by decide +kernel
theorem dX0_lengthen_123 : decode cX0_lengthen 123 = .ok (.iload 5, 2) := by decide +kernel
theorem dX0_lengthen_125 : decode cX0_lengthen 125 = .ok (.iload_n 2, 1) := by decide +kernel
theorem dX0_lengthen_126 : decode cX0_lengthen 126 = .ok (.if_icmp .le 19, 3) := by decide +kernel
theorem dX0_lengthen_129 : decode cX0_lengthen 129 = .ok (.aload_n 0, 1) := by decide +kernel
theorem dX0_lengthen_130 : decode cX0_lengthen 130 = .ok (.getfield 38, 3) := by decide +kernel
theorem dX0_lengthen_133 : decode cX0_lengthen 133 = .ok (.iload_n 1, 1) := by decide +kernel
theorem dX0_lengthen_134 : decode cX0_lengthen 134 = .ok (.iconst 2, 1) := by decide +kernel
theorem dX0_lengthen_135 : decode cX0_lengthen 135 = .ok (.iload_n 3, 1) := by decide +kernel
theorem dX0_lengthen_136 : decode cX0_lengthen 136 = .ok (.imul, 1) := by decide +kernel
theorem dX0_lengthen_137 : decode cX0_lengthen 137 = .ok (.bipush 16, 2) := by decide +kernel
theorem dX0_lengthen_139 : decode cX0_lengthen 139 = .ok (.invokestatic 98, 3) := by decide +kernel
theorem dX0_lengthen_142 : decode cX0_lengthen 142 = .ok (.invokevirtual 47, 3) := by decide +kernel
theorem dX0_lengthen_145 : decode cX0_lengthen 145 = .ok (.return_, 1) := by decide +kernel
set_option maxRecDepth 20000 in
theorem ggX0_addFrom_X3_holds : GoodIn wsX0_addFrom wsX3_holds := goodIn_r _ [8, 9, 32] (by decide +kernel) (by decide +kernel)
set_option maxRecDepth 20000 in
theorem gX0_addFrom_X3_holds : GoodIn wsX0_addFrom (wsV RX0 54 RX3 yX3_holds wsX3_holds) := goodIn_app (goodIn_of _ (by decide +kernel)) ggX0_addFrom_X3_holds
set_option maxRecDepth 20000 in
theorem ggX0_addFrom_X3_put : GoodIn wsX0_addFrom wsX3_put := goodIn_r _ [13, 9, 32] (by decide +kernel) (by decide +kernel)
set_option maxRecDepth 20000 in
theorem gX0_addFrom_X3_put : GoodIn wsX0_addFrom (wsV RX0 47 RX3 yX3_put wsX3_put) := goodIn_app (goodIn_of _ (by decide +kernel)) ggX0_addFrom_X3_put
set_option maxRecDepth 20000 in
theorem ggX0_addFrom_X3_at : GoodIn wsX0_addFrom wsX3_at := goodIn_r _ [17, 9, 32] (by decide +kernel) (by decide +kernel)
set_option maxRecDepth 20000 in
theorem gX0_addFrom_X3_at : GoodIn wsX0_addFrom (wsV RX0 72 RX3 yX3_at wsX3_at) := goodIn_app (goodIn_of _ (by decide +kernel)) ggX0_addFrom_X3_at
set_option maxRecDepth 20000 in
theorem ggX0_addFrom_X3_grow : GoodIn wsX0_addFrom wsX3_grow := goodIn_r _ [21, 9, 32] (by decide +kernel) (by decide +kernel)
set_option maxRecDepth 20000 in
theorem gX0_addFrom_X3_grow : GoodIn wsX0_addFrom (wsV RX0 104 RX3 yX3_grow wsX3_grow) := goodIn_app (goodIn_of _ (by decide +kernel)) ggX0_addFrom_X3_grow
theorem dX0_addFrom_0 : decode cX0_addFrom 0 = .ok (.iconst 0, 1) := by decide +kernel
theorem dX0_addFrom_1 : decode cX0_addFrom 1 = .ok (.istore 4, 2) := by decide +kernel
theorem dX0_addFrom_3 : decode cX0_addFrom 3 = .ok (.iload 4, 2) := by decide +kernel
theorem dX0_addFrom_5 : decode cX0_addFrom 5 = .ok (.iload_n 3, 1) := by decide +kernel
theorem dX0_addFrom_6 : decode cX0_addFrom 6 = .ok (.if_icmp .ge 65, 3) := by decide +kernel
theorem dX0_addFrom_9 : decode cX0_addFrom 9 = .ok (.aload_n 0, 1) := by decide +kernel
theorem dX0_addFrom_10 : decode cX0_addFrom 10 = .ok (.getfield 20, 3) := by decide +kernel
theorem dX0_addFrom_13 : decode cX0_addFrom 13 = .ok (.iload_n 2, 1) := by decide +kernel
theorem dX0_addFrom_14 : decode cX0_addFrom 14 = .ok (.iload 4, 2) := by decide +kernel
theorem dX0_addFrom_16 : decode cX0_addFrom 16 = .ok (.iadd, 1) := by decide +kernel
theorem dX0_addFrom_17 : decode cX0_addFrom 17 = .ok (.bipush (-5), 2) := by decide +kernel
theorem dX0_addFrom_19 : decode cX0_addFrom 19 = .ok (.invokevirtual 54, 3) := by decide +kernel
theorem dX0_addFrom_22 : decode cX0_addFrom 22 = .ok (.ifCond .eq 49, 3) := by decide +kernel
theorem dX0_addFrom_25 : decode cX0_addFrom 25 = .ok (.aload_n 0, 1) := by decide +kernel
theorem dX0_addFrom_26 : decode cX0_addFrom 26 = .ok (.getfield 20, 3) := by decide +kernel
theorem dX0_addFrom_29 : decode cX0_addFrom 29 = .ok (.iload_n 2, 1) := by decide +kernel
theorem dX0_addFrom_30 : decode cX0_addFrom 30 = .ok (.iload 4, 2) := by decide +kernel
theorem dX0_addFrom_32 : decode cX0_addFrom 32 = .ok (.iadd, 1) := by decide +kernel
theorem dX0_addFrom_33 : decode cX0_addFrom 33 = .ok (.iload_n 1, 1) := by decide +kernel
theorem dX0_addFrom_34 : decode cX0_addFrom 34 = .ok (.invokevirtual 47, 3) := by decide +kernel
theorem dX0_addFrom_37 : decode cX0_addFrom 37 = .ok (.aload_n 0, 1) := by decide +kernel
theorem dX0_addFrom_38 : decode cX0_addFrom 38 = .ok (.getfield 23, 3) := by decide +kernel
theorem dX0_addFrom_41 : decode cX0_addFrom 41 = .ok (.iload_n 2, 1) := by decide +kernel
theorem dX0_addFrom_42 : decode cX0_addFrom 42 = .ok (.iload 4, 2) := by decide +kernel
theorem dX0_addFrom_44 : decode cX0_addFrom 44 = .ok (.iadd, 1) := by decide +kernel
theorem dX0_addFrom_45 : decode cX0_addFrom 45 = .ok (.aload_n 0, 1) := by decide +kernel
theorem dX0_addFrom_46 : decode cX0_addFrom 46 = .ok (.getfield 29, 3) := by decide +kernel
theorem dX0_addFrom_49 : decode cX0_addFrom 49 = .ok (.iload_n 1, 1) := by decide +kernel
theorem dX0_addFrom_50 : decode cX0_addFrom 50 = .ok (.invokevirtual 72, 3) := by decide +kernel
theorem dX0_addFrom_53 : decode cX0_addFrom 53 = .ok (.invokevirtual 47, 3) := by decide +kernel
theorem dX0_addFrom_56 : decode cX0_addFrom 56 = .ok (.aload_n 0, 1) := by decide +kernel
theorem dX0_addFrom_57 : decode cX0_addFrom 57 = .ok (.getfield 29, 3) := by decide +kernel
theorem dX0_addFrom_60 : decode cX0_addFrom 60 = .ok (.iload_n 1, 1) := by decide +kernel
theorem dX0_addFrom_61 : decode cX0_addFrom 61 = .ok (.iconst 1, 1) := by decide +kernel
theorem dX0_addFrom_62 : decode cX0_addFrom 62 = .ok (.invokevirtual 104, 3) := by decide +kernel
theorem dX0_addFrom_65 : decode cX0_addFrom 65 = .ok (.iinc 4 1, 3) := by decide +kernel
theorem dX0_addFrom_68 : decode cX0_addFrom 68 = .ok (.goto (-65), 3) := by decide +kernel
theorem dX0_addFrom_71 : decode cX0_addFrom 71 = .ok (.iload 4, 2) := by decide +kernel
theorem dX0_addFrom_73 : decode cX0_addFrom 73 = .ok (.ireturn, 1) := by decide +kernel
set_option maxRecDepth 20000 in
theorem ggX0_chosenRun_X0_runFrom : GoodIn wsX0_chosenRun wsX0_runFrom := goodIn_r _ [5, 6, 7, 8, 9, 10, 11, 12, 18, 19, 20, 21, 22, 23, 24, 25, 26, 27, 28] (by decide +kernel) (by decide +kernel)
set_option maxRecDepth 20000 in
theorem gX0_chosenRun_X0_runFrom : GoodIn wsX0_chosenRun (wsV RX0 123 RX0 yX0_runFrom wsX0_runFrom) := goodIn_app (goodIn_of _ (by decide +kernel)) ggX0_chosenRun_X0_runFrom
set_option maxRecDepth 20000 in
theorem ggX0_chosenRun_X0_isBetter : GoodIn wsX0_chosenRun wsX0_isBetter := goodIn_r _ [16, 17, 7, 8, 9, 10, 11, 12, 18, 19, 20, 21, 22, 23, 24, 25, 26, 27, 28] (by decide +kernel) (by decide +kernel)
set_option maxRecDepth 20000 in
theorem gX0_chosenRun_X0_isBetter : GoodIn wsX0_chosenRun (wsV RX0 126 RX0 yX0_isBetter wsX0_isBetter) := goodIn_app (goodIn_of _ (by decide +kernel)) ggX0_chosenRun_X0_isBetter
theorem dX0_chosenRun_0 : decode cX0_chosenRun 0 = .ok (.bipush (-5), 2) := by decide +kernel
theorem dX0_chosenRun_2 : decode cX0_chosenRun 2 = .ok (.istore_n 2, 1) := by decide +kernel
theorem dX0_chosenRun_3 : decode cX0_chosenRun 3 = .ok (.iconst 0, 1) := by decide +kernel
theorem dX0_chosenRun_4 : decode cX0_chosenRun 4 = .ok (.istore_n 3, 1) := by decide +kernel
theorem dX0_chosenRun_5 : decode cX0_chosenRun 5 = .ok (.iconst 0, 1) := by decide +kernel
theorem dX0_chosenRun_6 : decode cX0_chosenRun 6 = .ok (.istore 4, 2) := by decide +kernel
theorem dX0_chosenRun_8 : decode cX0_chosenRun 8 = .ok (.iload 4, 2) := by decide +kernel
theorem dX0_chosenRun_10 : decode cX0_chosenRun 10 = .ok (.bipush 64, 2) := by decide +kernel
theorem dX0_chosenRun_12 : decode cX0_chosenRun 12 = .ok (.if_icmp .ge 34, 3) := by decide +kernel
theorem dX0_chosenRun_15 : decode cX0_chosenRun 15 = .ok (.aload_n 0, 1) := by decide +kernel
theorem dX0_chosenRun_16 : decode cX0_chosenRun 16 = .ok (.iload 4, 2) := by decide +kernel
theorem dX0_chosenRun_18 : decode cX0_chosenRun 18 = .ok (.invokevirtual 123, 3) := by decide +kernel
theorem dX0_chosenRun_21 : decode cX0_chosenRun 21 = .ok (.istore 5, 2) := by decide +kernel
theorem dX0_chosenRun_23 : decode cX0_chosenRun 23 = .ok (.aload_n 0, 1) := by decide +kernel
theorem dX0_chosenRun_24 : decode cX0_chosenRun 24 = .ok (.iload 5, 2) := by decide +kernel
theorem dX0_chosenRun_26 : decode cX0_chosenRun 26 = .ok (.iload_n 3, 1) := by decide +kernel
theorem dX0_chosenRun_27 : decode cX0_chosenRun 27 = .ok (.iload_n 1, 1) := by decide +kernel
theorem dX0_chosenRun_28 : decode cX0_chosenRun 28 = .ok (.invokevirtual 126, 3) := by decide +kernel
theorem dX0_chosenRun_31 : decode cX0_chosenRun 31 = .ok (.ifCond .eq 9, 3) := by decide +kernel
theorem dX0_chosenRun_34 : decode cX0_chosenRun 34 = .ok (.iload 4, 2) := by decide +kernel
theorem dX0_chosenRun_36 : decode cX0_chosenRun 36 = .ok (.istore_n 2, 1) := by decide +kernel
theorem dX0_chosenRun_37 : decode cX0_chosenRun 37 = .ok (.iload 5, 2) := by decide +kernel
theorem dX0_chosenRun_39 : decode cX0_chosenRun 39 = .ok (.istore_n 3, 1) := by decide +kernel
theorem dX0_chosenRun_40 : decode cX0_chosenRun 40 = .ok (.iinc 4 1, 3) := by decide +kernel
theorem dX0_chosenRun_43 : decode cX0_chosenRun 43 = .ok (.goto (-35), 3) := by decide +kernel
theorem dX0_chosenRun_46 : decode cX0_chosenRun 46 = .ok (.iload_n 2, 1) := by decide +kernel
theorem dX0_chosenRun_47 : decode cX0_chosenRun 47 = .ok (.ireturn, 1) := by decide +kernel
set_option maxRecDepth 20000 in
theorem ggX0_isBetter_X3_holds : GoodIn wsX0_isBetter wsX3_holds := goodIn_r _ [6, 7, 18] (by decide +kernel) (by decide +kernel)
set_option maxRecDepth 20000 in
theorem gX0_isBetter_X3_holds : GoodIn wsX0_isBetter (wsV RX0 54 RX3 yX3_holds wsX3_holds) := goodIn_app (goodIn_of _ (by decide +kernel)) ggX0_isBetter_X3_holds
theorem dX0_isBetter_0 : decode cX0_isBetter 0 = .ok (.iload_n 2, 1) := by decide +kernel
theorem dX0_isBetter_1 : decode cX0_isBetter 1 = .ok (.iload_n 3, 1) := by decide +kernel
theorem dX0_isBetter_2 : decode cX0_isBetter 2 = .ok (.if_icmp .ge 14, 3) := by decide +kernel
theorem dX0_isBetter_5 : decode cX0_isBetter 5 = .ok (.iload_n 1, 1) := by decide +kernel
theorem dX0_isBetter_6 : decode cX0_isBetter 6 = .ok (.iload_n 2, 1) := by decide +kernel
theorem dX0_isBetter_7 : decode cX0_isBetter 7 = .ok (.if_icmp .le 7, 3) := by decide +kernel
theorem dX0_isBetter_10 : decode cX0_isBetter 10 = .ok (.iconst 1, 1) := by decide +kernel
theorem dX0_isBetter_11 : decode cX0_isBetter 11 = .ok (.goto 4, 3) := by decide +kernel
theorem dX0_isBetter_14 : decode cX0_isBetter 14 = .ok (.iconst 0, 1) := by decide +kernel
theorem dX0_isBetter_15 : decode cX0_isBetter 15 = .ok (.ireturn, 1) := by decide +kernel
theorem dX0_isBetter_16 : decode cX0_isBetter 16 = .ok (.aload_n 0, 1) := by decide +kernel
theorem dX0_isBetter_17 : decode cX0_isBetter 17 = .ok (.getfield 41, 3) := by decide +kernel
theorem dX0_isBetter_20 : decode cX0_isBetter 20 = .ok (.iconst 1, 1) := by decide +kernel
theorem dX0_isBetter_21 : decode cX0_isBetter 21 = .ok (.iconst 0, 1) := by decide +kernel
theorem dX0_isBetter_22 : decode cX0_isBetter 22 = .ok (.invokevirtual 54, 3) := by decide +kernel
theorem dX0_isBetter_25 : decode cX0_isBetter 25 = .ok (.ifCond .eq 17, 3) := by decide +kernel
theorem dX0_isBetter_28 : decode cX0_isBetter 28 = .ok (.iload_n 1, 1) := by decide +kernel
theorem dX0_isBetter_29 : decode cX0_isBetter 29 = .ok (.iload_n 3, 1) := by decide +kernel
theorem dX0_isBetter_30 : decode cX0_isBetter 30 = .ok (.if_icmp .lt 12, 3) := by decide +kernel
theorem dX0_isBetter_33 : decode cX0_isBetter 33 = .ok (.iload_n 1, 1) := by decide +kernel
theorem dX0_isBetter_34 : decode cX0_isBetter 34 = .ok (.iload_n 2, 1) := by decide +kernel
theorem dX0_isBetter_35 : decode cX0_isBetter 35 = .ok (.if_icmp .ge 7, 3) := by decide +kernel
theorem dX0_isBetter_38 : decode cX0_isBetter 38 = .ok (.iconst 1, 1) := by decide +kernel
theorem dX0_isBetter_39 : decode cX0_isBetter 39 = .ok (.goto 4, 3) := by decide +kernel
theorem dX0_isBetter_42 : decode cX0_isBetter 42 = .ok (.iconst 0, 1) := by decide +kernel
theorem dX0_isBetter_43 : decode cX0_isBetter 43 = .ok (.ireturn, 1) := by decide +kernel
set_option maxRecDepth 20000 in
theorem ggX0_write_X3_at : GoodIn wsX0_write wsX3_at := goodIn_r _ [8, 9, 39] (by decide +kernel) (by decide +kernel)
set_option maxRecDepth 20000 in
theorem gX0_write_X3_at : GoodIn wsX0_write (wsV RX0 72 RX3 yX3_at wsX3_at) := goodIn_app (goodIn_of _ (by decide +kernel)) ggX0_write_X3_at
set_option maxRecDepth 20000 in
theorem ggX0_write_X0_isPart : GoodIn wsX0_write wsX0_isPart := goodIn_r _ [14, 15, 16, 17, 18, 19, 7, 20, 9, 4, 5, 6, 8, 29, 30, 31, 32, 33, 34, 35, 36, 37, 38, 39] (by decide +kernel) (by decide +kernel)
set_option maxRecDepth 20000 in
theorem gX0_write_X0_isPart : GoodIn wsX0_write (wsV RX0 130 RX0 yX0_isPart wsX0_isPart) := goodIn_app (goodIn_of _ (by decide +kernel)) ggX0_write_X0_isPart
set_option maxRecDepth 20000 in
theorem ggX0_write_X3_put : GoodIn wsX0_write wsX3_put := goodIn_r _ [24, 9, 39] (by decide +kernel) (by decide +kernel)
set_option maxRecDepth 20000 in
theorem gX0_write_X3_put : GoodIn wsX0_write (wsV RX0 47 RX3 yX3_put wsX3_put) := goodIn_app (goodIn_of _ (by decide +kernel)) ggX0_write_X3_put
set_option maxRecDepth 20000 in
theorem ggX0_write_X3_grow : GoodIn wsX0_write wsX3_grow := goodIn_r _ [28, 9, 39] (by decide +kernel) (by decide +kernel)
set_option maxRecDepth 20000 in
theorem gX0_write_X3_grow : GoodIn wsX0_write (wsV RX0 104 RX3 yX3_grow wsX3_grow) := goodIn_app (goodIn_of _ (by decide +kernel)) ggX0_write_X3_grow
theorem dX0_write_0 : decode cX0_write 0 = .ok (.aload_n 0, 1) := by decide +kernel
theorem dX0_write_1 : decode cX0_write 1 = .ok (.getfield 32, 3) := by decide +kernel
theorem dX0_write_4 : decode cX0_write 4 = .ok (.iload_n 1, 1) := by decide +kernel
theorem dX0_write_5 : decode cX0_write 5 = .ok (.invokevirtual 72, 3) := by decide +kernel
theorem dX0_write_8 : decode cX0_write 8 = .ok (.istore 4, 2) := by decide +kernel
theorem dX0_write_10 : decode cX0_write 10 = .ok (.iconst 0, 1) := by decide +kernel
theorem dX0_write_11 : decode cX0_write 11 = .ok (.istore 5, 2) := by decide +kernel
theorem dX0_write_13 : decode cX0_write 13 = .ok (.iload 5, 2) := by decide +kernel
theorem dX0_write_15 : decode cX0_write 15 = .ok (.bipush 64, 2) := by decide +kernel
theorem dX0_write_17 : decode cX0_write 17 = .ok (.if_icmp .ge 35, 3) := by decide +kernel
theorem dX0_write_20 : decode cX0_write 20 = .ok (.aload_n 0, 1) := by decide +kernel
theorem dX0_write_21 : decode cX0_write 21 = .ok (.iload 5, 2) := by decide +kernel
theorem dX0_write_23 : decode cX0_write 23 = .ok (.iload_n 1, 1) := by decide +kernel
theorem dX0_write_24 : decode cX0_write 24 = .ok (.iload 4, 2) := by decide +kernel
theorem dX0_write_26 : decode cX0_write 26 = .ok (.iload 4, 2) := by decide +kernel
theorem dX0_write_28 : decode cX0_write 28 = .ok (.iload_n 2, 1) := by decide +kernel
theorem dX0_write_29 : decode cX0_write 29 = .ok (.iadd, 1) := by decide +kernel
theorem dX0_write_30 : decode cX0_write 30 = .ok (.invokevirtual 130, 3) := by decide +kernel
theorem dX0_write_33 : decode cX0_write 33 = .ok (.ifCond .eq 13, 3) := by decide +kernel
theorem dX0_write_36 : decode cX0_write 36 = .ok (.aload_n 0, 1) := by decide +kernel
theorem dX0_write_37 : decode cX0_write 37 = .ok (.getfield 14, 3) := by decide +kernel
theorem dX0_write_40 : decode cX0_write 40 = .ok (.iload 5, 2) := by decide +kernel
theorem dX0_write_42 : decode cX0_write 42 = .ok (.iload_n 3, 1) := by decide +kernel
theorem dX0_write_43 : decode cX0_write 43 = .ok (.invokevirtual 47, 3) := by decide +kernel
theorem dX0_write_46 : decode cX0_write 46 = .ok (.iinc 5 1, 3) := by decide +kernel
theorem dX0_write_49 : decode cX0_write 49 = .ok (.goto (-36), 3) := by decide +kernel
theorem dX0_write_52 : decode cX0_write 52 = .ok (.aload_n 0, 1) := by decide +kernel
theorem dX0_write_53 : decode cX0_write 53 = .ok (.getfield 32, 3) := by decide +kernel
theorem dX0_write_56 : decode cX0_write 56 = .ok (.iload_n 1, 1) := by decide +kernel
theorem dX0_write_57 : decode cX0_write 57 = .ok (.iload_n 2, 1) := by decide +kernel
theorem dX0_write_58 : decode cX0_write 58 = .ok (.invokevirtual 104, 3) := by decide +kernel
theorem dX0_write_61 : decode cX0_write 61 = .ok (.aload_n 0, 1) := by decide +kernel
theorem dX0_write_62 : decode cX0_write 62 = .ok (.getfield 44, 3) := by decide +kernel
theorem dX0_write_65 : decode cX0_write 65 = .ok (.iconst 0, 1) := by decide +kernel
theorem dX0_write_66 : decode cX0_write 66 = .ok (.iload_n 2, 1) := by decide +kernel
theorem dX0_write_67 : decode cX0_write 67 = .ok (.invokevirtual 104, 3) := by decide +kernel
theorem dX0_write_70 : decode cX0_write 70 = .ok (.return_, 1) := by decide +kernel
set_option maxRecDepth 20000 in
theorem ggX0_giveBack_X0_lentOf : GoodIn wsX0_giveBack wsX0_lentOf := goodIn_r _ [8, 9, 1, 10, 11, 12, 13, 14, 15, 34, 35, 36, 37, 38, 39, 40, 41, 42, 43, 44] (by decide +kernel) (by decide +kernel)
set_option maxRecDepth 20000 in
theorem gX0_giveBack_X0_lentOf : GoodIn wsX0_giveBack (wsV RX0 82 RX0 yX0_lentOf wsX0_lentOf) := goodIn_app (goodIn_of _ (by decide +kernel)) ggX0_giveBack_X0_lentOf
set_option maxRecDepth 20000 in
theorem ggX0_giveBack_X3_at : GoodIn wsX0_giveBack wsX3_at := goodIn_r _ [14, 15, 44] (by decide +kernel) (by decide +kernel)
set_option maxRecDepth 20000 in
theorem gX0_giveBack_X3_at : GoodIn wsX0_giveBack (wsV RX0 72 RX3 yX3_at wsX3_at) := goodIn_app (goodIn_of _ (by decide +kernel)) ggX0_giveBack_X3_at
set_option maxRecDepth 20000 in
theorem ggX0_giveBack_X0_freeFrom : GoodIn wsX0_giveBack wsX0_freeFrom := goodIn_r _ [19, 20, 21, 9, 22, 23, 24, 13, 25, 15, 10, 11, 12, 14, 26, 27, 28, 29, 34, 35, 36, 37, 38, 39, 40, 41, 42, 43, 44] (by decide +kernel) (by decide +kernel)
set_option maxRecDepth 20000 in
theorem gX0_giveBack_X0_freeFrom : GoodIn wsX0_giveBack (wsV RX0 75 RX0 yX0_freeFrom wsX0_freeFrom) := goodIn_app (goodIn_of _ (by decide +kernel)) ggX0_giveBack_X0_freeFrom
set_option maxRecDepth 20000 in
theorem ggX0_giveBack_X3_put : GoodIn wsX0_giveBack wsX3_put := goodIn_r _ [29, 15, 44] (by decide +kernel) (by decide +kernel)
set_option maxRecDepth 20000 in
theorem gX0_giveBack_X3_put : GoodIn wsX0_giveBack (wsV RX0 47 RX3 yX3_put wsX3_put) := goodIn_app (goodIn_of _ (by decide +kernel)) ggX0_giveBack_X3_put
set_option maxRecDepth 20000 in
theorem ggX0_giveBack_X3_grow : GoodIn wsX0_giveBack wsX3_grow := goodIn_r _ [33, 15, 44] (by decide +kernel) (by decide +kernel)
set_option maxRecDepth 20000 in
theorem gX0_giveBack_X3_grow : GoodIn wsX0_giveBack (wsV RX0 104 RX3 yX3_grow wsX3_grow) := goodIn_app (goodIn_of _ (by decide +kernel)) ggX0_giveBack_X3_grow
theorem dX0_giveBack_0 : decode cX0_giveBack 0 = .ok (.aload_n 0, 1) := by decide +kernel
theorem dX0_giveBack_1 : decode cX0_giveBack 1 = .ok (.iload_n 1, 1) := by decide +kernel
theorem dX0_giveBack_2 : decode cX0_giveBack 2 = .ok (.invokevirtual 82, 3) := by decide +kernel
theorem dX0_giveBack_5 : decode cX0_giveBack 5 = .ok (.istore_n 2, 1) := by decide +kernel
theorem dX0_giveBack_6 : decode cX0_giveBack 6 = .ok (.aload_n 0, 1) := by decide +kernel
theorem dX0_giveBack_7 : decode cX0_giveBack 7 = .ok (.iload_n 1, 1) := by decide +kernel
theorem dX0_giveBack_8 : decode cX0_giveBack 8 = .ok (.aload_n 0, 1) := by decide +kernel
theorem dX0_giveBack_9 : decode cX0_giveBack 9 = .ok (.getfield 32, 3) := by decide +kernel
theorem dX0_giveBack_12 : decode cX0_giveBack 12 = .ok (.iload_n 1, 1) := by decide +kernel
theorem dX0_giveBack_13 : decode cX0_giveBack 13 = .ok (.invokevirtual 72, 3) := by decide +kernel
theorem dX0_giveBack_16 : decode cX0_giveBack 16 = .ok (.invokevirtual 75, 3) := by decide +kernel
theorem dX0_giveBack_19 : decode cX0_giveBack 19 = .ok (.aload_n 0, 1) := by decide +kernel
theorem dX0_giveBack_20 : decode cX0_giveBack 20 = .ok (.getfield 38, 3) := by decide +kernel
theorem dX0_giveBack_23 : decode cX0_giveBack 23 = .ok (.iload_n 1, 1) := by decide +kernel
theorem dX0_giveBack_24 : decode cX0_giveBack 24 = .ok (.iconst 1, 1) := by decide +kernel
theorem dX0_giveBack_25 : decode cX0_giveBack 25 = .ok (.invokevirtual 47, 3) := by decide +kernel
theorem dX0_giveBack_28 : decode cX0_giveBack 28 = .ok (.aload_n 0, 1) := by decide +kernel
theorem dX0_giveBack_29 : decode cX0_giveBack 29 = .ok (.getfield 44, 3) := by decide +kernel
theorem dX0_giveBack_32 : decode cX0_giveBack 32 = .ok (.iconst 1, 1) := by decide +kernel
theorem dX0_giveBack_33 : decode cX0_giveBack 33 = .ok (.iload_n 2, 1) := by decide +kernel
theorem dX0_giveBack_34 : decode cX0_giveBack 34 = .ok (.invokevirtual 104, 3) := by decide +kernel
theorem dX0_giveBack_37 : decode cX0_giveBack 37 = .ok (.iload_n 2, 1) := by decide +kernel
theorem dX0_giveBack_38 : decode cX0_giveBack 38 = .ok (.ireturn, 1) := by decide +kernel
set_option maxRecDepth 20000 in
theorem ggX0_freeFrom_X3_holds : GoodIn wsX0_freeFrom wsX3_holds := goodIn_r _ [8, 9, 28] (by decide +kernel) (by decide +kernel)
set_option maxRecDepth 20000 in
theorem gX0_freeFrom_X3_holds : GoodIn wsX0_freeFrom (wsV RX0 54 RX3 yX3_holds wsX3_holds) := goodIn_app (goodIn_of _ (by decide +kernel)) ggX0_freeFrom_X3_holds
set_option maxRecDepth 20000 in
theorem ggX0_freeFrom_X3_at : GoodIn wsX0_freeFrom wsX3_at := goodIn_r _ [13, 9, 28] (by decide +kernel) (by decide +kernel)
set_option maxRecDepth 20000 in
theorem gX0_freeFrom_X3_at : GoodIn wsX0_freeFrom (wsV RX0 72 RX3 yX3_at wsX3_at) := goodIn_app (goodIn_of _ (by decide +kernel)) ggX0_freeFrom_X3_at
set_option maxRecDepth 20000 in
theorem ggX0_freeFrom_X3_put : GoodIn wsX0_freeFrom wsX3_put := goodIn_r _ [17, 9, 28] (by decide +kernel) (by decide +kernel)
set_option maxRecDepth 20000 in
theorem gX0_freeFrom_X3_put : GoodIn wsX0_freeFrom (wsV RX0 47 RX3 yX3_put wsX3_put) := goodIn_app (goodIn_of _ (by decide +kernel)) ggX0_freeFrom_X3_put
theorem dX0_freeFrom_0 : decode cX0_freeFrom 0 = .ok (.iconst 0, 1) := by decide +kernel
theorem dX0_freeFrom_1 : decode cX0_freeFrom 1 = .ok (.istore_n 3, 1) := by decide +kernel
theorem dX0_freeFrom_2 : decode cX0_freeFrom 2 = .ok (.iload_n 3, 1) := by decide +kernel
theorem dX0_freeFrom_3 : decode cX0_freeFrom 3 = .ok (.bipush 64, 2) := by decide +kernel
theorem dX0_freeFrom_5 : decode cX0_freeFrom 5 = .ok (.if_icmp .ge 53, 3) := by decide +kernel
theorem dX0_freeFrom_8 : decode cX0_freeFrom 8 = .ok (.aload_n 0, 1) := by decide +kernel
theorem dX0_freeFrom_9 : decode cX0_freeFrom 9 = .ok (.getfield 20, 3) := by decide +kernel
theorem dX0_freeFrom_12 : decode cX0_freeFrom 12 = .ok (.iload_n 3, 1) := by decide +kernel
theorem dX0_freeFrom_13 : decode cX0_freeFrom 13 = .ok (.iload_n 1, 1) := by decide +kernel
theorem dX0_freeFrom_14 : decode cX0_freeFrom 14 = .ok (.invokevirtual 54, 3) := by decide +kernel
theorem dX0_freeFrom_17 : decode cX0_freeFrom 17 = .ok (.ifCond .eq 35, 3) := by decide +kernel
theorem dX0_freeFrom_20 : decode cX0_freeFrom 20 = .ok (.aload_n 0, 1) := by decide +kernel
theorem dX0_freeFrom_21 : decode cX0_freeFrom 21 = .ok (.getfield 23, 3) := by decide +kernel
theorem dX0_freeFrom_24 : decode cX0_freeFrom 24 = .ok (.iload_n 3, 1) := by decide +kernel
theorem dX0_freeFrom_25 : decode cX0_freeFrom 25 = .ok (.invokevirtual 72, 3) := by decide +kernel
theorem dX0_freeFrom_28 : decode cX0_freeFrom 28 = .ok (.iload_n 2, 1) := by decide +kernel
theorem dX0_freeFrom_29 : decode cX0_freeFrom 29 = .ok (.if_icmp .lt 23, 3) := by decide +kernel
theorem dX0_freeFrom_32 : decode cX0_freeFrom 32 = .ok (.aload_n 0, 1) := by decide +kernel
theorem dX0_freeFrom_33 : decode cX0_freeFrom 33 = .ok (.getfield 20, 3) := by decide +kernel
theorem dX0_freeFrom_36 : decode cX0_freeFrom 36 = .ok (.iload_n 3, 1) := by decide +kernel
theorem dX0_freeFrom_37 : decode cX0_freeFrom 37 = .ok (.bipush (-5), 2) := by decide +kernel
theorem dX0_freeFrom_39 : decode cX0_freeFrom 39 = .ok (.invokevirtual 47, 3) := by decide +kernel
theorem dX0_freeFrom_42 : decode cX0_freeFrom 42 = .ok (.aload_n 0, 1) := by decide +kernel
theorem dX0_freeFrom_43 : decode cX0_freeFrom 43 = .ok (.getfield 23, 3) := by decide +kernel
theorem dX0_freeFrom_46 : decode cX0_freeFrom 46 = .ok (.iload_n 3, 1) := by decide +kernel
theorem dX0_freeFrom_47 : decode cX0_freeFrom 47 = .ok (.bipush (-5), 2) := by decide +kernel
theorem dX0_freeFrom_49 : decode cX0_freeFrom 49 = .ok (.invokevirtual 47, 3) := by decide +kernel
theorem dX0_freeFrom_52 : decode cX0_freeFrom 52 = .ok (.iinc 3 1, 3) := by decide +kernel
theorem dX0_freeFrom_55 : decode cX0_freeFrom 55 = .ok (.goto (-53), 3) := by decide +kernel
theorem dX0_freeFrom_58 : decode cX0_freeFrom 58 = .ok (.aload_n 0, 1) := by decide +kernel
theorem dX0_freeFrom_59 : decode cX0_freeFrom 59 = .ok (.getfield 29, 3) := by decide +kernel
theorem dX0_freeFrom_62 : decode cX0_freeFrom 62 = .ok (.iload_n 1, 1) := by decide +kernel
theorem dX0_freeFrom_63 : decode cX0_freeFrom 63 = .ok (.iload_n 2, 1) := by decide +kernel
theorem dX0_freeFrom_64 : decode cX0_freeFrom 64 = .ok (.invokevirtual 47, 3) := by decide +kernel
theorem dX0_freeFrom_67 : decode cX0_freeFrom 67 = .ok (.return_, 1) := by decide +kernel
set_option maxRecDepth 20000 in
theorem ggX0_ownerOf_X3_at : GoodIn wsX0_ownerOf wsX3_at := goodIn_r _ [6, 7, 18] (by decide +kernel) (by decide +kernel)
set_option maxRecDepth 20000 in
theorem gX0_ownerOf_X3_at : GoodIn wsX0_ownerOf (wsV RX0 72 RX3 yX3_at wsX3_at) := goodIn_app (goodIn_of _ (by decide +kernel)) ggX0_ownerOf_X3_at
theorem dX0_ownerOf_0 : decode cX0_ownerOf 0 = .ok (.aload_n 0, 1) := by decide +kernel
theorem dX0_ownerOf_1 : decode cX0_ownerOf 1 = .ok (.getfield 20, 3) := by decide +kernel
theorem dX0_ownerOf_4 : decode cX0_ownerOf 4 = .ok (.iload_n 1, 1) := by decide +kernel
theorem dX0_ownerOf_5 : decode cX0_ownerOf 5 = .ok (.invokevirtual 72, 3) := by decide +kernel
theorem dX0_ownerOf_8 : decode cX0_ownerOf 8 = .ok (.ireturn, 1) := by decide +kernel
set_option maxRecDepth 20000 in
theorem ggX0_placeOf_X3_at : GoodIn wsX0_placeOf wsX3_at := goodIn_r _ [6, 7, 18] (by decide +kernel) (by decide +kernel)
set_option maxRecDepth 20000 in
theorem gX0_placeOf_X3_at : GoodIn wsX0_placeOf (wsV RX0 72 RX3 yX3_at wsX3_at) := goodIn_app (goodIn_of _ (by decide +kernel)) ggX0_placeOf_X3_at
theorem dX0_placeOf_0 : decode cX0_placeOf 0 = .ok (.aload_n 0, 1) := by decide +kernel
theorem dX0_placeOf_1 : decode cX0_placeOf 1 = .ok (.getfield 23, 3) := by decide +kernel
theorem dX0_placeOf_4 : decode cX0_placeOf 4 = .ok (.iload_n 1, 1) := by decide +kernel
theorem dX0_placeOf_5 : decode cX0_placeOf 5 = .ok (.invokevirtual 72, 3) := by decide +kernel
theorem dX0_placeOf_8 : decode cX0_placeOf 8 = .ok (.ireturn, 1) := by decide +kernel
set_option maxRecDepth 20000 in
theorem ggX0_stampOf_X3_at : GoodIn wsX0_stampOf wsX3_at := goodIn_r _ [6, 7, 18] (by decide +kernel) (by decide +kernel)
set_option maxRecDepth 20000 in
theorem gX0_stampOf_X3_at : GoodIn wsX0_stampOf (wsV RX0 72 RX3 yX3_at wsX3_at) := goodIn_app (goodIn_of _ (by decide +kernel)) ggX0_stampOf_X3_at
theorem dX0_stampOf_0 : decode cX0_stampOf 0 = .ok (.aload_n 0, 1) := by decide +kernel
theorem dX0_stampOf_1 : decode cX0_stampOf 1 = .ok (.getfield 14, 3) := by decide +kernel
theorem dX0_stampOf_4 : decode cX0_stampOf 4 = .ok (.iload_n 1, 1) := by decide +kernel
theorem dX0_stampOf_5 : decode cX0_stampOf 5 = .ok (.invokevirtual 72, 3) := by decide +kernel
theorem dX0_stampOf_8 : decode cX0_stampOf 8 = .ok (.ireturn, 1) := by decide +kernel
set_option maxRecDepth 20000 in
theorem ggX0_useOf_X3_holds : GoodIn wsX0_useOf wsX3_holds := goodIn_r _ [8, 9, 24] (by decide +kernel) (by decide +kernel)
set_option maxRecDepth 20000 in
theorem gX0_useOf_X3_holds : GoodIn wsX0_useOf (wsV RX0 54 RX3 yX3_holds wsX3_holds) := goodIn_app (goodIn_of _ (by decide +kernel)) ggX0_useOf_X3_holds
set_option maxRecDepth 20000 in
theorem ggX0_useOf_X3_at : GoodIn wsX0_useOf wsX3_at := goodIn_r _ [13, 9, 24] (by decide +kernel) (by decide +kernel)
set_option maxRecDepth 20000 in
theorem gX0_useOf_X3_at : GoodIn wsX0_useOf (wsV RX0 72 RX3 yX3_at wsX3_at) := goodIn_app (goodIn_of _ (by decide +kernel)) ggX0_useOf_X3_at
theorem dX0_useOf_0 : decode cX0_useOf 0 = .ok (.aload_n 0, 1) := by decide +kernel
theorem dX0_useOf_1 : decode cX0_useOf 1 = .ok (.getfield 20, 3) := by decide +kernel
theorem dX0_useOf_4 : decode cX0_useOf 4 = .ok (.iload_n 1, 1) := by decide +kernel
theorem dX0_useOf_5 : decode cX0_useOf 5 = .ok (.bipush (-5), 2) := by decide +kernel
theorem dX0_useOf_7 : decode cX0_useOf 7 = .ok (.invokevirtual 54, 3) := by decide +kernel
theorem dX0_useOf_10 : decode cX0_useOf 10 = .ok (.ifCond .eq 5, 3) := by decide +kernel
theorem dX0_useOf_13 : decode cX0_useOf 13 = .ok (.iconst 0, 1) := by decide +kernel
theorem dX0_useOf_14 : decode cX0_useOf 14 = .ok (.ireturn, 1) := by decide +kernel
theorem dX0_useOf_15 : decode cX0_useOf 15 = .ok (.aload_n 0, 1) := by decide +kernel
theorem dX0_useOf_16 : decode cX0_useOf 16 = .ok (.getfield 23, 3) := by decide +kernel
theorem dX0_useOf_19 : decode cX0_useOf 19 = .ok (.iload_n 1, 1) := by decide +kernel
theorem dX0_useOf_20 : decode cX0_useOf 20 = .ok (.invokevirtual 72, 3) := by decide +kernel
theorem dX0_useOf_23 : decode cX0_useOf 23 = .ok (.aload_n 0, 1) := by decide +kernel
theorem dX0_useOf_24 : decode cX0_useOf 24 = .ok (.getfield 32, 3) := by decide +kernel
theorem dX0_useOf_27 : decode cX0_useOf 27 = .ok (.aload_n 0, 1) := by decide +kernel
theorem dX0_useOf_28 : decode cX0_useOf 28 = .ok (.getfield 20, 3) := by decide +kernel
theorem dX0_useOf_31 : decode cX0_useOf 31 = .ok (.iload_n 1, 1) := by decide +kernel
theorem dX0_useOf_32 : decode cX0_useOf 32 = .ok (.invokevirtual 72, 3) := by decide +kernel
theorem dX0_useOf_35 : decode cX0_useOf 35 = .ok (.invokevirtual 72, 3) := by decide +kernel
theorem dX0_useOf_38 : decode cX0_useOf 38 = .ok (.if_icmp .ge 7, 3) := by decide +kernel
theorem dX0_useOf_41 : decode cX0_useOf 41 = .ok (.iconst 1, 1) := by decide +kernel
theorem dX0_useOf_42 : decode cX0_useOf 42 = .ok (.goto 4, 3) := by decide +kernel
theorem dX0_useOf_45 : decode cX0_useOf 45 = .ok (.iconst 2, 1) := by decide +kernel
theorem dX0_useOf_46 : decode cX0_useOf 46 = .ok (.ireturn, 1) := by decide +kernel
set_option maxRecDepth 20000 in
theorem ggX0_isPart_X3_holds : GoodIn wsX0_isPart wsX3_holds := goodIn_r _ [7, 8, 23] (by decide +kernel) (by decide +kernel)
set_option maxRecDepth 20000 in
theorem gX0_isPart_X3_holds : GoodIn wsX0_isPart (wsV RX0 54 RX3 yX3_holds wsX3_holds) := goodIn_app (goodIn_of _ (by decide +kernel)) ggX0_isPart_X3_holds
set_option maxRecDepth 20000 in
theorem ggX0_isPart_X3_at : GoodIn wsX0_isPart wsX3_at := goodIn_r _ [12, 8, 23] (by decide +kernel) (by decide +kernel)
set_option maxRecDepth 20000 in
theorem gX0_isPart_X3_at : GoodIn wsX0_isPart (wsV RX0 72 RX3 yX3_at wsX3_at) := goodIn_app (goodIn_of _ (by decide +kernel)) ggX0_isPart_X3_at
theorem dX0_isPart_0 : decode cX0_isPart 0 = .ok (.aload_n 0, 1) := by decide +kernel
theorem dX0_isPart_1 : decode cX0_isPart 1 = .ok (.getfield 20, 3) := by decide +kernel
theorem dX0_isPart_4 : decode cX0_isPart 4 = .ok (.iload_n 1, 1) := by decide +kernel
theorem dX0_isPart_5 : decode cX0_isPart 5 = .ok (.iload_n 2, 1) := by decide +kernel
theorem dX0_isPart_6 : decode cX0_isPart 6 = .ok (.invokevirtual 54, 3) := by decide +kernel
theorem dX0_isPart_9 : decode cX0_isPart 9 = .ok (.ifCond .eq 32, 3) := by decide +kernel
theorem dX0_isPart_12 : decode cX0_isPart 12 = .ok (.aload_n 0, 1) := by decide +kernel
theorem dX0_isPart_13 : decode cX0_isPart 13 = .ok (.getfield 23, 3) := by decide +kernel
theorem dX0_isPart_16 : decode cX0_isPart 16 = .ok (.iload_n 1, 1) := by decide +kernel
theorem dX0_isPart_17 : decode cX0_isPart 17 = .ok (.invokevirtual 72, 3) := by decide +kernel
theorem dX0_isPart_20 : decode cX0_isPart 20 = .ok (.iload_n 3, 1) := by decide +kernel
theorem dX0_isPart_21 : decode cX0_isPart 21 = .ok (.if_icmp .lt 20, 3) := by decide +kernel
theorem dX0_isPart_24 : decode cX0_isPart 24 = .ok (.aload_n 0, 1) := by decide +kernel
theorem dX0_isPart_25 : decode cX0_isPart 25 = .ok (.getfield 23, 3) := by decide +kernel
theorem dX0_isPart_28 : decode cX0_isPart 28 = .ok (.iload_n 1, 1) := by decide +kernel
theorem dX0_isPart_29 : decode cX0_isPart 29 = .ok (.invokevirtual 72, 3) := by decide +kernel
theorem dX0_isPart_32 : decode cX0_isPart 32 = .ok (.iload 4, 2) := by decide +kernel
theorem dX0_isPart_34 : decode cX0_isPart 34 = .ok (.if_icmp .ge 7, 3) := by decide +kernel
theorem dX0_isPart_37 : decode cX0_isPart 37 = .ok (.iconst 1, 1) := by decide +kernel
theorem dX0_isPart_38 : decode cX0_isPart 38 = .ok (.goto 4, 3) := by decide +kernel
theorem dX0_isPart_41 : decode cX0_isPart 41 = .ok (.iconst 0, 1) := by decide +kernel
theorem dX0_isPart_42 : decode cX0_isPart 42 = .ok (.ireturn, 1) := by decide +kernel
set_option maxRecDepth 20000 in
theorem ggX0_isFile_X3_holds : GoodIn wsX0_isFile wsX3_holds := goodIn_r _ [6, 7, 18] (by decide +kernel) (by decide +kernel)
set_option maxRecDepth 20000 in
theorem gX0_isFile_X3_holds : GoodIn wsX0_isFile (wsV RX0 54 RX3 yX3_holds wsX3_holds) := goodIn_app (goodIn_of _ (by decide +kernel)) ggX0_isFile_X3_holds
theorem dX0_isFile_0 : decode cX0_isFile 0 = .ok (.aload_n 0, 1) := by decide +kernel
theorem dX0_isFile_1 : decode cX0_isFile 1 = .ok (.getfield 26, 3) := by decide +kernel
theorem dX0_isFile_4 : decode cX0_isFile 4 = .ok (.iload_n 1, 1) := by decide +kernel
theorem dX0_isFile_5 : decode cX0_isFile 5 = .ok (.iconst 2, 1) := by decide +kernel
theorem dX0_isFile_6 : decode cX0_isFile 6 = .ok (.invokevirtual 54, 3) := by decide +kernel
theorem dX0_isFile_9 : decode cX0_isFile 9 = .ok (.ifCond .ne 15, 3) := by decide +kernel
theorem dX0_isFile_12 : decode cX0_isFile 12 = .ok (.aload_n 0, 1) := by decide +kernel
theorem dX0_isFile_13 : decode cX0_isFile 13 = .ok (.getfield 26, 3) := by decide +kernel
theorem dX0_isFile_16 : decode cX0_isFile 16 = .ok (.iload_n 1, 1) := by decide +kernel
theorem dX0_isFile_17 : decode cX0_isFile 17 = .ok (.iconst 1, 1) := by decide +kernel
theorem dX0_isFile_18 : decode cX0_isFile 18 = .ok (.invokevirtual 54, 3) := by decide +kernel
theorem dX0_isFile_21 : decode cX0_isFile 21 = .ok (.ifCond .eq 7, 3) := by decide +kernel
theorem dX0_isFile_24 : decode cX0_isFile 24 = .ok (.iconst 1, 1) := by decide +kernel
theorem dX0_isFile_25 : decode cX0_isFile 25 = .ok (.goto 4, 3) := by decide +kernel
theorem dX0_isFile_28 : decode cX0_isFile 28 = .ok (.iconst 0, 1) := by decide +kernel
theorem dX0_isFile_29 : decode cX0_isFile 29 = .ok (.ireturn, 1) := by decide +kernel
set_option maxRecDepth 20000 in
theorem ggX0_isOpen_X3_holds : GoodIn wsX0_isOpen wsX3_holds := goodIn_r _ [6, 7, 18] (by decide +kernel) (by decide +kernel)
set_option maxRecDepth 20000 in
theorem gX0_isOpen_X3_holds : GoodIn wsX0_isOpen (wsV RX0 54 RX3 yX3_holds wsX3_holds) := goodIn_app (goodIn_of _ (by decide +kernel)) ggX0_isOpen_X3_holds
theorem dX0_isOpen_0 : decode cX0_isOpen 0 = .ok (.aload_n 0, 1) := by decide +kernel
theorem dX0_isOpen_1 : decode cX0_isOpen 1 = .ok (.getfield 26, 3) := by decide +kernel
theorem dX0_isOpen_4 : decode cX0_isOpen 4 = .ok (.iload_n 1, 1) := by decide +kernel
theorem dX0_isOpen_5 : decode cX0_isOpen 5 = .ok (.iconst 2, 1) := by decide +kernel
theorem dX0_isOpen_6 : decode cX0_isOpen 6 = .ok (.invokevirtual 54, 3) := by decide +kernel
theorem dX0_isOpen_9 : decode cX0_isOpen 9 = .ok (.ireturn, 1) := by decide +kernel
set_option maxRecDepth 20000 in
theorem ggX0_sizeOf_X3_at : GoodIn wsX0_sizeOf wsX3_at := goodIn_r _ [6, 7, 18] (by decide +kernel) (by decide +kernel)
set_option maxRecDepth 20000 in
theorem gX0_sizeOf_X3_at : GoodIn wsX0_sizeOf (wsV RX0 72 RX3 yX3_at wsX3_at) := goodIn_app (goodIn_of _ (by decide +kernel)) ggX0_sizeOf_X3_at
theorem dX0_sizeOf_0 : decode cX0_sizeOf 0 = .ok (.aload_n 0, 1) := by decide +kernel
theorem dX0_sizeOf_1 : decode cX0_sizeOf 1 = .ok (.getfield 32, 3) := by decide +kernel
theorem dX0_sizeOf_4 : decode cX0_sizeOf 4 = .ok (.iload_n 1, 1) := by decide +kernel
theorem dX0_sizeOf_5 : decode cX0_sizeOf 5 = .ok (.invokevirtual 72, 3) := by decide +kernel
theorem dX0_sizeOf_8 : decode cX0_sizeOf 8 = .ok (.ireturn, 1) := by decide +kernel
set_option maxRecDepth 20000 in
theorem ggX0_lentOf_X3_at : GoodIn wsX0_lentOf wsX3_at := goodIn_r _ [7, 8, 19] (by decide +kernel) (by decide +kernel)
set_option maxRecDepth 20000 in
theorem gX0_lentOf_X3_at : GoodIn wsX0_lentOf (wsV RX0 72 RX3 yX3_at wsX3_at) := goodIn_app (goodIn_of _ (by decide +kernel)) ggX0_lentOf_X3_at
theorem dX0_lentOf_0 : decode cX0_lentOf 0 = .ok (.aload_n 0, 1) := by decide +kernel
theorem dX0_lentOf_1 : decode cX0_lentOf 1 = .ok (.getfield 29, 3) := by decide +kernel
theorem dX0_lentOf_4 : decode cX0_lentOf 4 = .ok (.iload_n 1, 1) := by decide +kernel
theorem dX0_lentOf_5 : decode cX0_lentOf 5 = .ok (.invokevirtual 72, 3) := by decide +kernel
theorem dX0_lentOf_8 : decode cX0_lentOf 8 = .ok (.aload_n 0, 1) := by decide +kernel
theorem dX0_lentOf_9 : decode cX0_lentOf 9 = .ok (.getfield 32, 3) := by decide +kernel
theorem dX0_lentOf_12 : decode cX0_lentOf 12 = .ok (.iload_n 1, 1) := by decide +kernel
theorem dX0_lentOf_13 : decode cX0_lentOf 13 = .ok (.invokevirtual 72, 3) := by decide +kernel
theorem dX0_lentOf_16 : decode cX0_lentOf 16 = .ok (.isub, 1) := by decide +kernel
theorem dX0_lentOf_17 : decode cX0_lentOf 17 = .ok (.ireturn, 1) := by decide +kernel
set_option maxRecDepth 20000 in
theorem ggX0_safeSizeOf_X3_at : GoodIn wsX0_safeSizeOf wsX3_at := goodIn_r _ [6, 7, 18] (by decide +kernel) (by decide +kernel)
set_option maxRecDepth 20000 in
theorem gX0_safeSizeOf_X3_at : GoodIn wsX0_safeSizeOf (wsV RX0 72 RX3 yX3_at wsX3_at) := goodIn_app (goodIn_of _ (by decide +kernel)) ggX0_safeSizeOf_X3_at
theorem dX0_safeSizeOf_0 : decode cX0_safeSizeOf 0 = .ok (.aload_n 0, 1) := by decide +kernel
theorem dX0_safeSizeOf_1 : decode cX0_safeSizeOf 1 = .ok (.getfield 35, 3) := by decide +kernel
theorem dX0_safeSizeOf_4 : decode cX0_safeSizeOf 4 = .ok (.iload_n 1, 1) := by decide +kernel
theorem dX0_safeSizeOf_5 : decode cX0_safeSizeOf 5 = .ok (.invokevirtual 72, 3) := by decide +kernel
theorem dX0_safeSizeOf_8 : decode cX0_safeSizeOf 8 = .ok (.ireturn, 1) := by decide +kernel
set_option maxRecDepth 20000 in
theorem ggX0_lendOf_X3_at : GoodIn wsX0_lendOf wsX3_at := goodIn_r _ [6, 7, 18] (by decide +kernel) (by decide +kernel)
set_option maxRecDepth 20000 in
theorem gX0_lendOf_X3_at : GoodIn wsX0_lendOf (wsV RX0 72 RX3 yX3_at wsX3_at) := goodIn_app (goodIn_of _ (by decide +kernel)) ggX0_lendOf_X3_at
theorem dX0_lendOf_0 : decode cX0_lendOf 0 = .ok (.aload_n 0, 1) := by decide +kernel
theorem dX0_lendOf_1 : decode cX0_lendOf 1 = .ok (.getfield 38, 3) := by decide +kernel
theorem dX0_lendOf_4 : decode cX0_lendOf 4 = .ok (.iload_n 1, 1) := by decide +kernel
theorem dX0_lendOf_5 : decode cX0_lendOf 5 = .ok (.invokevirtual 72, 3) := by decide +kernel
theorem dX0_lendOf_8 : decode cX0_lendOf 8 = .ok (.ireturn, 1) := by decide +kernel
set_option maxRecDepth 20000 in
theorem ggX0_blockAt_X3_holds : GoodIn wsX0_blockAt wsX3_holds := goodIn_r _ [7, 8, 19] (by decide +kernel) (by decide +kernel)
set_option maxRecDepth 20000 in
theorem gX0_blockAt_X3_holds : GoodIn wsX0_blockAt (wsV RX0 54 RX3 yX3_holds wsX3_holds) := goodIn_app (goodIn_of _ (by decide +kernel)) ggX0_blockAt_X3_holds
theorem dX0_blockAt_0 : decode cX0_blockAt 0 = .ok (.iconst 0, 1) := by decide +kernel
theorem dX0_blockAt_1 : decode cX0_blockAt 1 = .ok (.istore_n 3, 1) := by decide +kernel
theorem dX0_blockAt_2 : decode cX0_blockAt 2 = .ok (.iload_n 3, 1) := by decide +kernel
theorem dX0_blockAt_3 : decode cX0_blockAt 3 = .ok (.bipush 64, 2) := by decide +kernel
theorem dX0_blockAt_5 : decode cX0_blockAt 5 = .ok (.if_icmp .ge 35, 3) := by decide +kernel
theorem dX0_blockAt_8 : decode cX0_blockAt 8 = .ok (.aload_n 0, 1) := by decide +kernel
theorem dX0_blockAt_9 : decode cX0_blockAt 9 = .ok (.getfield 20, 3) := by decide +kernel
theorem dX0_blockAt_12 : decode cX0_blockAt 12 = .ok (.iload_n 3, 1) := by decide +kernel
theorem dX0_blockAt_13 : decode cX0_blockAt 13 = .ok (.iload_n 1, 1) := by decide +kernel
theorem dX0_blockAt_14 : decode cX0_blockAt 14 = .ok (.invokevirtual 54, 3) := by decide +kernel
theorem dX0_blockAt_17 : decode cX0_blockAt 17 = .ok (.ifCond .eq 17, 3) := by decide +kernel
theorem dX0_blockAt_20 : decode cX0_blockAt 20 = .ok (.aload_n 0, 1) := by decide +kernel
theorem dX0_blockAt_21 : decode cX0_blockAt 21 = .ok (.getfield 23, 3) := by decide +kernel
theorem dX0_blockAt_24 : decode cX0_blockAt 24 = .ok (.iload_n 3, 1) := by decide +kernel
theorem dX0_blockAt_25 : decode cX0_blockAt 25 = .ok (.iload_n 2, 1) := by decide +kernel
theorem dX0_blockAt_26 : decode cX0_blockAt 26 = .ok (.invokevirtual 54, 3) := by decide +kernel
theorem dX0_blockAt_29 : decode cX0_blockAt 29 = .ok (.ifCond .eq 5, 3) := by decide +kernel
theorem dX0_blockAt_32 : decode cX0_blockAt 32 = .ok (.iload_n 3, 1) := by decide +kernel
theorem dX0_blockAt_33 : decode cX0_blockAt 33 = .ok (.ireturn, 1) := by decide +kernel
theorem dX0_blockAt_34 : decode cX0_blockAt 34 = .ok (.iinc 3 1, 3) := by decide +kernel
theorem dX0_blockAt_37 : decode cX0_blockAt 37 = .ok (.goto (-35), 3) := by decide +kernel
theorem dX0_blockAt_40 : decode cX0_blockAt 40 = .ok (.bipush (-5), 2) := by decide +kernel
theorem dX0_blockAt_42 : decode cX0_blockAt 42 = .ok (.ireturn, 1) := by decide +kernel
set_option maxRecDepth 20000 in
theorem ggX0_extentsOf_X3_holds : GoodIn wsX0_extentsOf wsX3_holds := goodIn_r _ [6, 7, 28] (by decide +kernel) (by decide +kernel)
set_option maxRecDepth 20000 in
theorem gX0_extentsOf_X3_holds : GoodIn wsX0_extentsOf (wsV RX0 54 RX3 yX3_holds wsX3_holds) := goodIn_app (goodIn_of _ (by decide +kernel)) ggX0_extentsOf_X3_holds
set_option maxRecDepth 20000 in
theorem ggX0_extentsOf_X0_beginsExtent : GoodIn wsX0_extentsOf wsX0_beginsExtent := goodIn_r _ [12, 1, 13, 14, 15, 16, 5, 17, 7, 2, 3, 4, 6, 18, 19, 20, 21, 22, 23, 24, 25, 26, 27, 28] (by decide +kernel) (by decide +kernel)
set_option maxRecDepth 20000 in
theorem gX0_extentsOf_X0_beginsExtent : GoodIn wsX0_extentsOf (wsV RX0 134 RX0 yX0_beginsExtent wsX0_beginsExtent) := goodIn_app (goodIn_of _ (by decide +kernel)) ggX0_extentsOf_X0_beginsExtent
theorem dX0_extentsOf_0 : decode cX0_extentsOf 0 = .ok (.iconst 0, 1) := by decide +kernel
theorem dX0_extentsOf_1 : decode cX0_extentsOf 1 = .ok (.istore_n 2, 1) := by decide +kernel
theorem dX0_extentsOf_2 : decode cX0_extentsOf 2 = .ok (.iconst 0, 1) := by decide +kernel
theorem dX0_extentsOf_3 : decode cX0_extentsOf 3 = .ok (.istore_n 3, 1) := by decide +kernel
theorem dX0_extentsOf_4 : decode cX0_extentsOf 4 = .ok (.iload_n 3, 1) := by decide +kernel
theorem dX0_extentsOf_5 : decode cX0_extentsOf 5 = .ok (.bipush 64, 2) := by decide +kernel
theorem dX0_extentsOf_7 : decode cX0_extentsOf 7 = .ok (.if_icmp .ge 32, 3) := by decide +kernel
theorem dX0_extentsOf_10 : decode cX0_extentsOf 10 = .ok (.aload_n 0, 1) := by decide +kernel
theorem dX0_extentsOf_11 : decode cX0_extentsOf 11 = .ok (.getfield 20, 3) := by decide +kernel
theorem dX0_extentsOf_14 : decode cX0_extentsOf 14 = .ok (.iload_n 3, 1) := by decide +kernel
theorem dX0_extentsOf_15 : decode cX0_extentsOf 15 = .ok (.iload_n 1, 1) := by decide +kernel
theorem dX0_extentsOf_16 : decode cX0_extentsOf 16 = .ok (.invokevirtual 54, 3) := by decide +kernel
theorem dX0_extentsOf_19 : decode cX0_extentsOf 19 = .ok (.ifCond .eq 14, 3) := by decide +kernel
theorem dX0_extentsOf_22 : decode cX0_extentsOf 22 = .ok (.aload_n 0, 1) := by decide +kernel
theorem dX0_extentsOf_23 : decode cX0_extentsOf 23 = .ok (.iload_n 3, 1) := by decide +kernel
theorem dX0_extentsOf_24 : decode cX0_extentsOf 24 = .ok (.invokevirtual 134, 3) := by decide +kernel
theorem dX0_extentsOf_27 : decode cX0_extentsOf 27 = .ok (.ifCond .eq 6, 3) := by decide +kernel
theorem dX0_extentsOf_30 : decode cX0_extentsOf 30 = .ok (.iinc 2 1, 3) := by decide +kernel
theorem dX0_extentsOf_33 : decode cX0_extentsOf 33 = .ok (.iinc 3 1, 3) := by decide +kernel
theorem dX0_extentsOf_36 : decode cX0_extentsOf 36 = .ok (.goto (-32), 3) := by decide +kernel
theorem dX0_extentsOf_39 : decode cX0_extentsOf 39 = .ok (.iload_n 2, 1) := by decide +kernel
theorem dX0_extentsOf_40 : decode cX0_extentsOf 40 = .ok (.ireturn, 1) := by decide +kernel
set_option maxRecDepth 20000 in
theorem ggX0_beginsExtent_X3_at : GoodIn wsX0_beginsExtent wsX3_at := goodIn_r _ [7, 8, 23] (by decide +kernel) (by decide +kernel)
set_option maxRecDepth 20000 in
theorem gX0_beginsExtent_X3_at : GoodIn wsX0_beginsExtent (wsV RX0 72 RX3 yX3_at wsX3_at) := goodIn_app (goodIn_of _ (by decide +kernel)) ggX0_beginsExtent_X3_at
set_option maxRecDepth 20000 in
theorem ggX0_beginsExtent_X3_holds : GoodIn wsX0_beginsExtent wsX3_holds := goodIn_r _ [12, 8, 23] (by decide +kernel) (by decide +kernel)
set_option maxRecDepth 20000 in
theorem gX0_beginsExtent_X3_holds : GoodIn wsX0_beginsExtent (wsV RX0 54 RX3 yX3_holds wsX3_holds) := goodIn_app (goodIn_of _ (by decide +kernel)) ggX0_beginsExtent_X3_holds
theorem dX0_beginsExtent_0 : decode cX0_beginsExtent 0 = .ok (.aload_n 0, 1) := by decide +kernel
theorem dX0_beginsExtent_1 : decode cX0_beginsExtent 1 = .ok (.getfield 20, 3) := by decide +kernel
theorem dX0_beginsExtent_4 : decode cX0_beginsExtent 4 = .ok (.iload_n 1, 1) := by decide +kernel
theorem dX0_beginsExtent_5 : decode cX0_beginsExtent 5 = .ok (.iconst 1, 1) := by decide +kernel
theorem dX0_beginsExtent_6 : decode cX0_beginsExtent 6 = .ok (.isub, 1) := by decide +kernel
theorem dX0_beginsExtent_7 : decode cX0_beginsExtent 7 = .ok (.aload_n 0, 1) := by decide +kernel
theorem dX0_beginsExtent_8 : decode cX0_beginsExtent 8 = .ok (.getfield 20, 3) := by decide +kernel
theorem dX0_beginsExtent_11 : decode cX0_beginsExtent 11 = .ok (.iload_n 1, 1) := by decide +kernel
theorem dX0_beginsExtent_12 : decode cX0_beginsExtent 12 = .ok (.invokevirtual 72, 3) := by decide +kernel
theorem dX0_beginsExtent_15 : decode cX0_beginsExtent 15 = .ok (.invokevirtual 54, 3) := by decide +kernel
theorem dX0_beginsExtent_18 : decode cX0_beginsExtent 18 = .ok (.ifCond .eq 26, 3) := by decide +kernel
theorem dX0_beginsExtent_21 : decode cX0_beginsExtent 21 = .ok (.aload_n 0, 1) := by decide +kernel
theorem dX0_beginsExtent_22 : decode cX0_beginsExtent 22 = .ok (.getfield 23, 3) := by decide +kernel
theorem dX0_beginsExtent_25 : decode cX0_beginsExtent 25 = .ok (.iload_n 1, 1) := by decide +kernel
theorem dX0_beginsExtent_26 : decode cX0_beginsExtent 26 = .ok (.iconst 1, 1) := by decide +kernel
theorem dX0_beginsExtent_27 : decode cX0_beginsExtent 27 = .ok (.isub, 1) := by decide +kernel
theorem dX0_beginsExtent_28 : decode cX0_beginsExtent 28 = .ok (.aload_n 0, 1) := by decide +kernel
theorem dX0_beginsExtent_29 : decode cX0_beginsExtent 29 = .ok (.getfield 23, 3) := by decide +kernel
theorem dX0_beginsExtent_32 : decode cX0_beginsExtent 32 = .ok (.iload_n 1, 1) := by decide +kernel
theorem dX0_beginsExtent_33 : decode cX0_beginsExtent 33 = .ok (.invokevirtual 72, 3) := by decide +kernel
theorem dX0_beginsExtent_36 : decode cX0_beginsExtent 36 = .ok (.iconst 1, 1) := by decide +kernel
theorem dX0_beginsExtent_37 : decode cX0_beginsExtent 37 = .ok (.isub, 1) := by decide +kernel
theorem dX0_beginsExtent_38 : decode cX0_beginsExtent 38 = .ok (.invokevirtual 54, 3) := by decide +kernel
theorem dX0_beginsExtent_41 : decode cX0_beginsExtent 41 = .ok (.ifCond .ne 7, 3) := by decide +kernel
theorem dX0_beginsExtent_44 : decode cX0_beginsExtent 44 = .ok (.iconst 1, 1) := by decide +kernel
theorem dX0_beginsExtent_45 : decode cX0_beginsExtent 45 = .ok (.goto 4, 3) := by decide +kernel
theorem dX0_beginsExtent_48 : decode cX0_beginsExtent 48 = .ok (.iconst 0, 1) := by decide +kernel
theorem dX0_beginsExtent_49 : decode cX0_beginsExtent 49 = .ok (.ireturn, 1) := by decide +kernel
set_option maxRecDepth 20000 in
theorem ggX0_placeOfExtent_X3_at : GoodIn wsX0_placeOfExtent wsX3_at := goodIn_r _ [6, 7, 33] (by decide +kernel) (by decide +kernel)
set_option maxRecDepth 20000 in
theorem gX0_placeOfExtent_X3_at : GoodIn wsX0_placeOfExtent (wsV RX0 72 RX3 yX3_at wsX3_at) := goodIn_app (goodIn_of _ (by decide +kernel)) ggX0_placeOfExtent_X3_at
set_option maxRecDepth 20000 in
theorem ggX0_placeOfExtent_X0_blockAt : GoodIn wsX0_placeOfExtent wsX0_blockAt := goodIn_r _ [12, 13, 14, 15, 16, 17, 5, 18, 7, 23, 24, 25, 26, 27, 28, 29, 30, 31, 32, 33] (by decide +kernel) (by decide +kernel)
set_option maxRecDepth 20000 in
theorem gX0_placeOfExtent_X0_blockAt : GoodIn wsX0_placeOfExtent (wsV RX0 113 RX0 yX0_blockAt wsX0_blockAt) := goodIn_app (goodIn_of _ (by decide +kernel)) ggX0_placeOfExtent_X0_blockAt
set_option maxRecDepth 20000 in
theorem ggX0_placeOfExtent_X0_beginsExtent : GoodIn wsX0_placeOfExtent wsX0_beginsExtent := goodIn_r _ [22, 13, 14, 2, 3, 4, 5, 6, 7, 15, 16, 17, 18, 23, 24, 25, 26, 27, 28, 29, 30, 31, 32, 33] (by decide +kernel) (by decide +kernel)
set_option maxRecDepth 20000 in
theorem gX0_placeOfExtent_X0_beginsExtent : GoodIn wsX0_placeOfExtent (wsV RX0 134 RX0 yX0_beginsExtent wsX0_beginsExtent) := goodIn_app (goodIn_of _ (by decide +kernel)) ggX0_placeOfExtent_X0_beginsExtent
theorem dX0_placeOfExtent_0 : decode cX0_placeOfExtent 0 = .ok (.iconst 0, 1) := by decide +kernel
theorem dX0_placeOfExtent_1 : decode cX0_placeOfExtent 1 = .ok (.istore_n 3, 1) := by decide +kernel
theorem dX0_placeOfExtent_2 : decode cX0_placeOfExtent 2 = .ok (.iconst 0, 1) := by decide +kernel
theorem dX0_placeOfExtent_3 : decode cX0_placeOfExtent 3 = .ok (.istore 4, 2) := by decide +kernel
theorem dX0_placeOfExtent_5 : decode cX0_placeOfExtent 5 = .ok (.iload 4, 2) := by decide +kernel
theorem dX0_placeOfExtent_7 : decode cX0_placeOfExtent 7 = .ok (.aload_n 0, 1) := by decide +kernel
theorem dX0_placeOfExtent_8 : decode cX0_placeOfExtent 8 = .ok (.getfield 29, 3) := by decide +kernel
theorem dX0_placeOfExtent_11 : decode cX0_placeOfExtent 11 = .ok (.iload_n 1, 1) := by decide +kernel
theorem dX0_placeOfExtent_12 : decode cX0_placeOfExtent 12 = .ok (.invokevirtual 72, 3) := by decide +kernel
theorem dX0_placeOfExtent_15 : decode cX0_placeOfExtent 15 = .ok (.if_icmp .ge 34, 3) := by decide +kernel
theorem dX0_placeOfExtent_18 : decode cX0_placeOfExtent 18 = .ok (.aload_n 0, 1) := by decide +kernel
theorem dX0_placeOfExtent_19 : decode cX0_placeOfExtent 19 = .ok (.aload_n 0, 1) := by decide +kernel
theorem dX0_placeOfExtent_20 : decode cX0_placeOfExtent 20 = .ok (.iload_n 1, 1) := by decide +kernel
theorem dX0_placeOfExtent_21 : decode cX0_placeOfExtent 21 = .ok (.iload 4, 2) := by decide +kernel
theorem dX0_placeOfExtent_23 : decode cX0_placeOfExtent 23 = .ok (.invokevirtual 113, 3) := by decide +kernel
theorem dX0_placeOfExtent_26 : decode cX0_placeOfExtent 26 = .ok (.invokevirtual 134, 3) := by decide +kernel
theorem dX0_placeOfExtent_29 : decode cX0_placeOfExtent 29 = .ok (.ifCond .eq 14, 3) := by decide +kernel
theorem dX0_placeOfExtent_32 : decode cX0_placeOfExtent 32 = .ok (.iload_n 3, 1) := by decide +kernel
theorem dX0_placeOfExtent_33 : decode cX0_placeOfExtent 33 = .ok (.iload_n 2, 1) := by decide +kernel
theorem dX0_placeOfExtent_34 : decode cX0_placeOfExtent 34 = .ok (.if_icmp .ne 6, 3) := by decide +kernel
theorem dX0_placeOfExtent_37 : decode cX0_placeOfExtent 37 = .ok (.iload 4, 2) := by decide +kernel
theorem dX0_placeOfExtent_39 : decode cX0_placeOfExtent 39 = .ok (.ireturn, 1) := by decide +kernel
theorem dX0_placeOfExtent_40 : decode cX0_placeOfExtent 40 = .ok (.iinc 3 1, 3) := by decide +kernel
theorem dX0_placeOfExtent_43 : decode cX0_placeOfExtent 43 = .ok (.iinc 4 1, 3) := by decide +kernel
theorem dX0_placeOfExtent_46 : decode cX0_placeOfExtent 46 = .ok (.goto (-41), 3) := by decide +kernel
theorem dX0_placeOfExtent_49 : decode cX0_placeOfExtent 49 = .ok (.bipush (-5), 2) := by decide +kernel
theorem dX0_placeOfExtent_51 : decode cX0_placeOfExtent 51 = .ok (.ireturn, 1) := by decide +kernel
set_option maxRecDepth 20000 in
theorem ggX0_extentFrom_X3_at : GoodIn wsX0_extentFrom wsX3_at := goodIn_r _ [6, 7, 33] (by decide +kernel) (by decide +kernel)
set_option maxRecDepth 20000 in
theorem gX0_extentFrom_X3_at : GoodIn wsX0_extentFrom (wsV RX0 72 RX3 yX3_at wsX3_at) := goodIn_app (goodIn_of _ (by decide +kernel)) ggX0_extentFrom_X3_at
set_option maxRecDepth 20000 in
theorem ggX0_extentFrom_X0_blockAt : GoodIn wsX0_extentFrom wsX0_blockAt := goodIn_r _ [12, 13, 14, 15, 16, 17, 5, 18, 7, 23, 24, 25, 26, 27, 28, 29, 30, 31, 32, 33] (by decide +kernel) (by decide +kernel)
set_option maxRecDepth 20000 in
theorem gX0_extentFrom_X0_blockAt : GoodIn wsX0_extentFrom (wsV RX0 113 RX0 yX0_blockAt wsX0_blockAt) := goodIn_app (goodIn_of _ (by decide +kernel)) ggX0_extentFrom_X0_blockAt
set_option maxRecDepth 20000 in
theorem ggX0_extentFrom_X0_beginsExtent : GoodIn wsX0_extentFrom wsX0_beginsExtent := goodIn_r _ [22, 13, 14, 2, 3, 4, 5, 6, 7, 15, 16, 17, 18, 23, 24, 25, 26, 27, 28, 29, 30, 31, 32, 33] (by decide +kernel) (by decide +kernel)
set_option maxRecDepth 20000 in
theorem gX0_extentFrom_X0_beginsExtent : GoodIn wsX0_extentFrom (wsV RX0 134 RX0 yX0_beginsExtent wsX0_beginsExtent) := goodIn_app (goodIn_of _ (by decide +kernel)) ggX0_extentFrom_X0_beginsExtent
theorem dX0_extentFrom_0 : decode cX0_extentFrom 0 = .ok (.iload_n 2, 1) := by decide +kernel
theorem dX0_extentFrom_1 : decode cX0_extentFrom 1 = .ok (.iconst 1, 1) := by decide +kernel
theorem dX0_extentFrom_2 : decode cX0_extentFrom 2 = .ok (.iadd, 1) := by decide +kernel
theorem dX0_extentFrom_3 : decode cX0_extentFrom 3 = .ok (.istore_n 3, 1) := by decide +kernel
theorem dX0_extentFrom_4 : decode cX0_extentFrom 4 = .ok (.iload_n 3, 1) := by decide +kernel
theorem dX0_extentFrom_5 : decode cX0_extentFrom 5 = .ok (.aload_n 0, 1) := by decide +kernel
theorem dX0_extentFrom_6 : decode cX0_extentFrom 6 = .ok (.getfield 29, 3) := by decide +kernel
theorem dX0_extentFrom_9 : decode cX0_extentFrom 9 = .ok (.iload_n 1, 1) := by decide +kernel
theorem dX0_extentFrom_10 : decode cX0_extentFrom 10 = .ok (.invokevirtual 72, 3) := by decide +kernel
theorem dX0_extentFrom_13 : decode cX0_extentFrom 13 = .ok (.if_icmp .ge 22, 3) := by decide +kernel
theorem dX0_extentFrom_16 : decode cX0_extentFrom 16 = .ok (.aload_n 0, 1) := by decide +kernel
theorem dX0_extentFrom_17 : decode cX0_extentFrom 17 = .ok (.aload_n 0, 1) := by decide +kernel
theorem dX0_extentFrom_18 : decode cX0_extentFrom 18 = .ok (.iload_n 1, 1) := by decide +kernel
theorem dX0_extentFrom_19 : decode cX0_extentFrom 19 = .ok (.iload_n 3, 1) := by decide +kernel
theorem dX0_extentFrom_20 : decode cX0_extentFrom 20 = .ok (.invokevirtual 113, 3) := by decide +kernel
theorem dX0_extentFrom_23 : decode cX0_extentFrom 23 = .ok (.invokevirtual 134, 3) := by decide +kernel
theorem dX0_extentFrom_26 : decode cX0_extentFrom 26 = .ok (.ifCond .ne 9, 3) := by decide +kernel
theorem dX0_extentFrom_29 : decode cX0_extentFrom 29 = .ok (.iinc 3 1, 3) := by decide +kernel
theorem dX0_extentFrom_32 : decode cX0_extentFrom 32 = .ok (.goto (-28), 3) := by decide +kernel
theorem dX0_extentFrom_35 : decode cX0_extentFrom 35 = .ok (.iload_n 3, 1) := by decide +kernel
theorem dX0_extentFrom_36 : decode cX0_extentFrom 36 = .ok (.iload_n 2, 1) := by decide +kernel
theorem dX0_extentFrom_37 : decode cX0_extentFrom 37 = .ok (.isub, 1) := by decide +kernel
theorem dX0_extentFrom_38 : decode cX0_extentFrom 38 = .ok (.ireturn, 1) := by decide +kernel
set_option maxRecDepth 20000 in
theorem ggX0_sumOfStamps_X0_isPart : GoodIn wsX0_sumOfStamps wsX0_isPart := goodIn_r _ [6, 7, 8, 9, 10, 11, 12, 13, 14, 15, 16, 17, 18, 19, 20, 21, 22, 23, 24, 25, 26, 27, 28, 29] (by decide +kernel) (by decide +kernel)
set_option maxRecDepth 20000 in
theorem gX0_sumOfStamps_X0_isPart : GoodIn wsX0_sumOfStamps (wsV RX0 130 RX0 yX0_isPart wsX0_isPart) := goodIn_app (goodIn_of _ (by decide +kernel)) ggX0_sumOfStamps_X0_isPart
set_option maxRecDepth 20000 in
theorem ggX0_sumOfStamps_X3_at : GoodIn wsX0_sumOfStamps wsX3_at := goodIn_r _ [18, 14, 29] (by decide +kernel) (by decide +kernel)
set_option maxRecDepth 20000 in
theorem gX0_sumOfStamps_X3_at : GoodIn wsX0_sumOfStamps (wsV RX0 72 RX3 yX3_at wsX3_at) := goodIn_app (goodIn_of _ (by decide +kernel)) ggX0_sumOfStamps_X3_at
theorem dX0_sumOfStamps_0 : decode cX0_sumOfStamps 0 = .ok (.iconst 0, 1) := by decide +kernel
theorem dX0_sumOfStamps_1 : decode cX0_sumOfStamps 1 = .ok (.istore 4, 2) := by decide +kernel
theorem dX0_sumOfStamps_3 : decode cX0_sumOfStamps 3 = .ok (.iconst 0, 1) := by decide +kernel
theorem dX0_sumOfStamps_4 : decode cX0_sumOfStamps 4 = .ok (.istore 5, 2) := by decide +kernel
theorem dX0_sumOfStamps_6 : decode cX0_sumOfStamps 6 = .ok (.iload 5, 2) := by decide +kernel
theorem dX0_sumOfStamps_8 : decode cX0_sumOfStamps 8 = .ok (.bipush 64, 2) := by decide +kernel
theorem dX0_sumOfStamps_10 : decode cX0_sumOfStamps 10 = .ok (.if_icmp .ge 35, 3) := by decide +kernel
theorem dX0_sumOfStamps_13 : decode cX0_sumOfStamps 13 = .ok (.aload_n 0, 1) := by decide +kernel
theorem dX0_sumOfStamps_14 : decode cX0_sumOfStamps 14 = .ok (.iload 5, 2) := by decide +kernel
theorem dX0_sumOfStamps_16 : decode cX0_sumOfStamps 16 = .ok (.iload_n 1, 1) := by decide +kernel
theorem dX0_sumOfStamps_17 : decode cX0_sumOfStamps 17 = .ok (.iload_n 2, 1) := by decide +kernel
theorem dX0_sumOfStamps_18 : decode cX0_sumOfStamps 18 = .ok (.iload_n 3, 1) := by decide +kernel
theorem dX0_sumOfStamps_19 : decode cX0_sumOfStamps 19 = .ok (.invokevirtual 130, 3) := by decide +kernel
theorem dX0_sumOfStamps_22 : decode cX0_sumOfStamps 22 = .ok (.ifCond .eq 17, 3) := by decide +kernel
theorem dX0_sumOfStamps_25 : decode cX0_sumOfStamps 25 = .ok (.iload 4, 2) := by decide +kernel
theorem dX0_sumOfStamps_27 : decode cX0_sumOfStamps 27 = .ok (.aload_n 0, 1) := by decide +kernel
theorem dX0_sumOfStamps_28 : decode cX0_sumOfStamps 28 = .ok (.getfield 14, 3) := by decide +kernel
theorem dX0_sumOfStamps_31 : decode cX0_sumOfStamps 31 = .ok (.iload 5, 2) := by decide +kernel
theorem dX0_sumOfStamps_33 : decode cX0_sumOfStamps 33 = .ok (.invokevirtual 72, 3) := by decide +kernel
theorem dX0_sumOfStamps_36 : decode cX0_sumOfStamps 36 = .ok (.iadd, 1) := by decide +kernel
theorem dX0_sumOfStamps_37 : decode cX0_sumOfStamps 37 = .ok (.istore 4, 2) := by decide +kernel
theorem dX0_sumOfStamps_39 : decode cX0_sumOfStamps 39 = .ok (.iinc 5 1, 3) := by decide +kernel
theorem dX0_sumOfStamps_42 : decode cX0_sumOfStamps 42 = .ok (.goto (-36), 3) := by decide +kernel
theorem dX0_sumOfStamps_45 : decode cX0_sumOfStamps 45 = .ok (.iload 4, 2) := by decide +kernel
theorem dX0_sumOfStamps_47 : decode cX0_sumOfStamps 47 = .ok (.ireturn, 1) := by decide +kernel
set_option maxRecDepth 20000 in
theorem ggX0_runFrom_X3_holds : GoodIn wsX0_runFrom wsX3_holds := goodIn_r _ [6, 7, 18] (by decide +kernel) (by decide +kernel)
set_option maxRecDepth 20000 in
theorem gX0_runFrom_X3_holds : GoodIn wsX0_runFrom (wsV RX0 54 RX3 yX3_holds wsX3_holds) := goodIn_app (goodIn_of _ (by decide +kernel)) ggX0_runFrom_X3_holds
theorem dX0_runFrom_0 : decode cX0_runFrom 0 = .ok (.aload_n 0, 1) := by decide +kernel
theorem dX0_runFrom_1 : decode cX0_runFrom 1 = .ok (.getfield 20, 3) := by decide +kernel
theorem dX0_runFrom_4 : decode cX0_runFrom 4 = .ok (.iload_n 1, 1) := by decide +kernel
theorem dX0_runFrom_5 : decode cX0_runFrom 5 = .ok (.iconst 1, 1) := by decide +kernel
theorem dX0_runFrom_6 : decode cX0_runFrom 6 = .ok (.isub, 1) := by decide +kernel
theorem dX0_runFrom_7 : decode cX0_runFrom 7 = .ok (.bipush (-5), 2) := by decide +kernel
theorem dX0_runFrom_9 : decode cX0_runFrom 9 = .ok (.invokevirtual 54, 3) := by decide +kernel
theorem dX0_runFrom_12 : decode cX0_runFrom 12 = .ok (.ifCond .eq 5, 3) := by decide +kernel
theorem dX0_runFrom_15 : decode cX0_runFrom 15 = .ok (.iconst 0, 1) := by decide +kernel
theorem dX0_runFrom_16 : decode cX0_runFrom 16 = .ok (.ireturn, 1) := by decide +kernel
theorem dX0_runFrom_17 : decode cX0_runFrom 17 = .ok (.iconst 0, 1) := by decide +kernel
theorem dX0_runFrom_18 : decode cX0_runFrom 18 = .ok (.istore_n 2, 1) := by decide +kernel
theorem dX0_runFrom_19 : decode cX0_runFrom 19 = .ok (.iload_n 2, 1) := by decide +kernel
theorem dX0_runFrom_20 : decode cX0_runFrom 20 = .ok (.bipush 64, 2) := by decide +kernel
theorem dX0_runFrom_22 : decode cX0_runFrom 22 = .ok (.if_icmp .ge 24, 3) := by decide +kernel
theorem dX0_runFrom_25 : decode cX0_runFrom 25 = .ok (.aload_n 0, 1) := by decide +kernel
theorem dX0_runFrom_26 : decode cX0_runFrom 26 = .ok (.getfield 20, 3) := by decide +kernel
theorem dX0_runFrom_29 : decode cX0_runFrom 29 = .ok (.iload_n 1, 1) := by decide +kernel
theorem dX0_runFrom_30 : decode cX0_runFrom 30 = .ok (.iload_n 2, 1) := by decide +kernel
theorem dX0_runFrom_31 : decode cX0_runFrom 31 = .ok (.iadd, 1) := by decide +kernel
theorem dX0_runFrom_32 : decode cX0_runFrom 32 = .ok (.bipush (-5), 2) := by decide +kernel
theorem dX0_runFrom_34 : decode cX0_runFrom 34 = .ok (.invokevirtual 54, 3) := by decide +kernel
theorem dX0_runFrom_37 : decode cX0_runFrom 37 = .ok (.ifCond .eq 9, 3) := by decide +kernel
theorem dX0_runFrom_40 : decode cX0_runFrom 40 = .ok (.iinc 2 1, 3) := by decide +kernel
theorem dX0_runFrom_43 : decode cX0_runFrom 43 = .ok (.goto (-24), 3) := by decide +kernel
theorem dX0_runFrom_46 : decode cX0_runFrom 46 = .ok (.iload_n 2, 1) := by decide +kernel
theorem dX0_runFrom_47 : decode cX0_runFrom 47 = .ok (.ireturn, 1) := by decide +kernel
set_option maxRecDepth 20000 in
theorem ggX0_firstOfRun_X0_runFrom : GoodIn wsX0_firstOfRun wsX0_runFrom := goodIn_r _ [5, 6, 7, 8, 9, 10, 11, 12, 13, 14, 15, 16, 17, 18, 19, 20, 21, 22, 23] (by decide +kernel) (by decide +kernel)
set_option maxRecDepth 20000 in
theorem gX0_firstOfRun_X0_runFrom : GoodIn wsX0_firstOfRun (wsV RX0 123 RX0 yX0_runFrom wsX0_runFrom) := goodIn_app (goodIn_of _ (by decide +kernel)) ggX0_firstOfRun_X0_runFrom
theorem dX0_firstOfRun_0 : decode cX0_firstOfRun 0 = .ok (.iconst 0, 1) := by decide +kernel
theorem dX0_firstOfRun_1 : decode cX0_firstOfRun 1 = .ok (.istore_n 2, 1) := by decide +kernel
theorem dX0_firstOfRun_2 : decode cX0_firstOfRun 2 = .ok (.iconst 0, 1) := by decide +kernel
theorem dX0_firstOfRun_3 : decode cX0_firstOfRun 3 = .ok (.istore_n 3, 1) := by decide +kernel
theorem dX0_firstOfRun_4 : decode cX0_firstOfRun 4 = .ok (.iload_n 3, 1) := by decide +kernel
theorem dX0_firstOfRun_5 : decode cX0_firstOfRun 5 = .ok (.bipush 64, 2) := by decide +kernel
theorem dX0_firstOfRun_7 : decode cX0_firstOfRun 7 = .ok (.if_icmp .ge 27, 3) := by decide +kernel
theorem dX0_firstOfRun_10 : decode cX0_firstOfRun 10 = .ok (.aload_n 0, 1) := by decide +kernel
theorem dX0_firstOfRun_11 : decode cX0_firstOfRun 11 = .ok (.iload_n 3, 1) := by decide +kernel
theorem dX0_firstOfRun_12 : decode cX0_firstOfRun 12 = .ok (.invokevirtual 123, 3) := by decide +kernel
theorem dX0_firstOfRun_15 : decode cX0_firstOfRun 15 = .ok (.ifCond .le 13, 3) := by decide +kernel
theorem dX0_firstOfRun_18 : decode cX0_firstOfRun 18 = .ok (.iload_n 2, 1) := by decide +kernel
theorem dX0_firstOfRun_19 : decode cX0_firstOfRun 19 = .ok (.iload_n 1, 1) := by decide +kernel
theorem dX0_firstOfRun_20 : decode cX0_firstOfRun 20 = .ok (.if_icmp .ne 5, 3) := by decide +kernel
theorem dX0_firstOfRun_23 : decode cX0_firstOfRun 23 = .ok (.iload_n 3, 1) := by decide +kernel
theorem dX0_firstOfRun_24 : decode cX0_firstOfRun 24 = .ok (.ireturn, 1) := by decide +kernel
theorem dX0_firstOfRun_25 : decode cX0_firstOfRun 25 = .ok (.iinc 2 1, 3) := by decide +kernel
theorem dX0_firstOfRun_28 : decode cX0_firstOfRun 28 = .ok (.iinc 3 1, 3) := by decide +kernel
theorem dX0_firstOfRun_31 : decode cX0_firstOfRun 31 = .ok (.goto (-27), 3) := by decide +kernel
theorem dX0_firstOfRun_34 : decode cX0_firstOfRun 34 = .ok (.bipush (-5), 2) := by decide +kernel
theorem dX0_firstOfRun_36 : decode cX0_firstOfRun 36 = .ok (.ireturn, 1) := by decide +kernel
set_option maxRecDepth 20000 in
theorem ggX0_freeRuns_X0_runFrom : GoodIn wsX0_freeRuns wsX0_runFrom := goodIn_r _ [5, 6, 7, 8, 9, 10, 11, 12, 13, 14, 15, 16, 17, 18, 19, 20, 21, 22, 23] (by decide +kernel) (by decide +kernel)
set_option maxRecDepth 20000 in
theorem gX0_freeRuns_X0_runFrom : GoodIn wsX0_freeRuns (wsV RX0 123 RX0 yX0_runFrom wsX0_runFrom) := goodIn_app (goodIn_of _ (by decide +kernel)) ggX0_freeRuns_X0_runFrom
theorem dX0_freeRuns_0 : decode cX0_freeRuns 0 = .ok (.iconst 0, 1) := by decide +kernel
theorem dX0_freeRuns_1 : decode cX0_freeRuns 1 = .ok (.istore_n 1, 1) := by decide +kernel
theorem dX0_freeRuns_2 : decode cX0_freeRuns 2 = .ok (.iconst 0, 1) := by decide +kernel
theorem dX0_freeRuns_3 : decode cX0_freeRuns 3 = .ok (.istore_n 2, 1) := by decide +kernel
theorem dX0_freeRuns_4 : decode cX0_freeRuns 4 = .ok (.iload_n 2, 1) := by decide +kernel
theorem dX0_freeRuns_5 : decode cX0_freeRuns 5 = .ok (.bipush 64, 2) := by decide +kernel
theorem dX0_freeRuns_7 : decode cX0_freeRuns 7 = .ok (.if_icmp .ge 20, 3) := by decide +kernel
theorem dX0_freeRuns_10 : decode cX0_freeRuns 10 = .ok (.aload_n 0, 1) := by decide +kernel
theorem dX0_freeRuns_11 : decode cX0_freeRuns 11 = .ok (.iload_n 2, 1) := by decide +kernel
theorem dX0_freeRuns_12 : decode cX0_freeRuns 12 = .ok (.invokevirtual 123, 3) := by decide +kernel
theorem dX0_freeRuns_15 : decode cX0_freeRuns 15 = .ok (.ifCond .le 6, 3) := by decide +kernel
theorem dX0_freeRuns_18 : decode cX0_freeRuns 18 = .ok (.iinc 1 1, 3) := by decide +kernel
theorem dX0_freeRuns_21 : decode cX0_freeRuns 21 = .ok (.iinc 2 1, 3) := by decide +kernel
theorem dX0_freeRuns_24 : decode cX0_freeRuns 24 = .ok (.goto (-20), 3) := by decide +kernel
theorem dX0_freeRuns_27 : decode cX0_freeRuns 27 = .ok (.iload_n 1, 1) := by decide +kernel
theorem dX0_freeRuns_28 : decode cX0_freeRuns 28 = .ok (.ireturn, 1) := by decide +kernel
set_option maxRecDepth 20000 in
theorem ggX0_longestRun_X0_runFrom : GoodIn wsX0_longestRun wsX0_runFrom := goodIn_r _ [9, 10, 11, 12, 13, 14, 15, 16, 17, 18, 19, 20, 21, 22, 23, 24, 25, 26, 27] (by decide +kernel) (by decide +kernel)
set_option maxRecDepth 20000 in
theorem gX0_longestRun_X0_runFrom : GoodIn wsX0_longestRun (wsV RX0 123 RX0 yX0_runFrom wsX0_runFrom) := goodIn_app (goodIn_of _ (by decide +kernel)) ggX0_longestRun_X0_runFrom
theorem dX0_longestRun_0 : decode cX0_longestRun 0 = .ok (.iconst 0, 1) := by decide +kernel
theorem dX0_longestRun_1 : decode cX0_longestRun 1 = .ok (.istore_n 1, 1) := by decide +kernel
theorem dX0_longestRun_2 : decode cX0_longestRun 2 = .ok (.iconst 0, 1) := by decide +kernel
theorem dX0_longestRun_3 : decode cX0_longestRun 3 = .ok (.istore_n 2, 1) := by decide +kernel
theorem dX0_longestRun_4 : decode cX0_longestRun 4 = .ok (.iload_n 2, 1) := by decide +kernel
theorem dX0_longestRun_5 : decode cX0_longestRun 5 = .ok (.bipush 64, 2) := by decide +kernel
theorem dX0_longestRun_7 : decode cX0_longestRun 7 = .ok (.if_icmp .ge 19, 3) := by decide +kernel
theorem dX0_longestRun_10 : decode cX0_longestRun 10 = .ok (.iload_n 1, 1) := by decide +kernel
theorem dX0_longestRun_11 : decode cX0_longestRun 11 = .ok (.aload_n 0, 1) := by decide +kernel
theorem dX0_longestRun_12 : decode cX0_longestRun 12 = .ok (.iload_n 2, 1) := by decide +kernel
theorem dX0_longestRun_13 : decode cX0_longestRun 13 = .ok (.invokevirtual 123, 3) := by decide +kernel
theorem dX0_longestRun_16 : decode cX0_longestRun 16 = .ok (.invokestatic 137, 3) := by decide +kernel
theorem dX0_longestRun_19 : decode cX0_longestRun 19 = .ok (.istore_n 1, 1) := by decide +kernel
theorem dX0_longestRun_20 : decode cX0_longestRun 20 = .ok (.iinc 2 1, 3) := by decide +kernel
theorem dX0_longestRun_23 : decode cX0_longestRun 23 = .ok (.goto (-19), 3) := by decide +kernel
theorem dX0_longestRun_26 : decode cX0_longestRun 26 = .ok (.iload_n 1, 1) := by decide +kernel
theorem dX0_longestRun_27 : decode cX0_longestRun 27 = .ok (.ireturn, 1) := by decide +kernel
set_option maxRecDepth 20000 in
theorem ggX0_totalOf_X3_at : GoodIn wsX0_totalOf wsX3_at := goodIn_r _ [6, 7, 18] (by decide +kernel) (by decide +kernel)
set_option maxRecDepth 20000 in
theorem gX0_totalOf_X3_at : GoodIn wsX0_totalOf (wsV RX0 72 RX3 yX3_at wsX3_at) := goodIn_app (goodIn_of _ (by decide +kernel)) ggX0_totalOf_X3_at
theorem dX0_totalOf_0 : decode cX0_totalOf 0 = .ok (.aload_n 0, 1) := by decide +kernel
theorem dX0_totalOf_1 : decode cX0_totalOf 1 = .ok (.getfield 44, 3) := by decide +kernel
theorem dX0_totalOf_4 : decode cX0_totalOf 4 = .ok (.iload_n 1, 1) := by decide +kernel
theorem dX0_totalOf_5 : decode cX0_totalOf 5 = .ok (.invokevirtual 72, 3) := by decide +kernel
theorem dX0_totalOf_8 : decode cX0_totalOf 8 = .ok (.ireturn, 1) := by decide +kernel
set_option maxRecDepth 20000 in
theorem ggX0_freeBlocks_X3_holds : GoodIn wsX0_freeBlocks wsX3_holds := goodIn_r _ [6, 7, 18] (by decide +kernel) (by decide +kernel)
set_option maxRecDepth 20000 in
theorem gX0_freeBlocks_X3_holds : GoodIn wsX0_freeBlocks (wsV RX0 54 RX3 yX3_holds wsX3_holds) := goodIn_app (goodIn_of _ (by decide +kernel)) ggX0_freeBlocks_X3_holds
theorem dX0_freeBlocks_0 : decode cX0_freeBlocks 0 = .ok (.iconst 0, 1) := by decide +kernel
theorem dX0_freeBlocks_1 : decode cX0_freeBlocks 1 = .ok (.istore_n 1, 1) := by decide +kernel
theorem dX0_freeBlocks_2 : decode cX0_freeBlocks 2 = .ok (.iconst 0, 1) := by decide +kernel
theorem dX0_freeBlocks_3 : decode cX0_freeBlocks 3 = .ok (.istore_n 2, 1) := by decide +kernel
theorem dX0_freeBlocks_4 : decode cX0_freeBlocks 4 = .ok (.iload_n 2, 1) := by decide +kernel
theorem dX0_freeBlocks_5 : decode cX0_freeBlocks 5 = .ok (.bipush 64, 2) := by decide +kernel
theorem dX0_freeBlocks_7 : decode cX0_freeBlocks 7 = .ok (.if_icmp .ge 25, 3) := by decide +kernel
theorem dX0_freeBlocks_10 : decode cX0_freeBlocks 10 = .ok (.aload_n 0, 1) := by decide +kernel
theorem dX0_freeBlocks_11 : decode cX0_freeBlocks 11 = .ok (.getfield 20, 3) := by decide +kernel
theorem dX0_freeBlocks_14 : decode cX0_freeBlocks 14 = .ok (.iload_n 2, 1) := by decide +kernel
theorem dX0_freeBlocks_15 : decode cX0_freeBlocks 15 = .ok (.bipush (-5), 2) := by decide +kernel
theorem dX0_freeBlocks_17 : decode cX0_freeBlocks 17 = .ok (.invokevirtual 54, 3) := by decide +kernel
theorem dX0_freeBlocks_20 : decode cX0_freeBlocks 20 = .ok (.ifCond .eq 6, 3) := by decide +kernel
theorem dX0_freeBlocks_23 : decode cX0_freeBlocks 23 = .ok (.iinc 1 1, 3) := by decide +kernel
theorem dX0_freeBlocks_26 : decode cX0_freeBlocks 26 = .ok (.iinc 2 1, 3) := by decide +kernel
theorem dX0_freeBlocks_29 : decode cX0_freeBlocks 29 = .ok (.goto (-25), 3) := by decide +kernel
theorem dX0_freeBlocks_32 : decode cX0_freeBlocks 32 = .ok (.iload_n 1, 1) := by decide +kernel
theorem dX0_freeBlocks_33 : decode cX0_freeBlocks 33 = .ok (.ireturn, 1) := by decide +kernel
set_option maxRecDepth 20000 in
theorem ggX0_dataBlocks_X3_at : GoodIn wsX0_dataBlocks wsX3_at := goodIn_r _ [6, 7, 18] (by decide +kernel) (by decide +kernel)
set_option maxRecDepth 20000 in
theorem gX0_dataBlocks_X3_at : GoodIn wsX0_dataBlocks (wsV RX0 72 RX3 yX3_at wsX3_at) := goodIn_app (goodIn_of _ (by decide +kernel)) ggX0_dataBlocks_X3_at
theorem dX0_dataBlocks_0 : decode cX0_dataBlocks 0 = .ok (.iconst 0, 1) := by decide +kernel
theorem dX0_dataBlocks_1 : decode cX0_dataBlocks 1 = .ok (.istore_n 1, 1) := by decide +kernel
theorem dX0_dataBlocks_2 : decode cX0_dataBlocks 2 = .ok (.iconst 0, 1) := by decide +kernel
theorem dX0_dataBlocks_3 : decode cX0_dataBlocks 3 = .ok (.istore_n 2, 1) := by decide +kernel
theorem dX0_dataBlocks_4 : decode cX0_dataBlocks 4 = .ok (.iload_n 2, 1) := by decide +kernel
theorem dX0_dataBlocks_5 : decode cX0_dataBlocks 5 = .ok (.bipush 8, 2) := by decide +kernel
theorem dX0_dataBlocks_7 : decode cX0_dataBlocks 7 = .ok (.if_icmp .ge 20, 3) := by decide +kernel
theorem dX0_dataBlocks_10 : decode cX0_dataBlocks 10 = .ok (.iload_n 1, 1) := by decide +kernel
theorem dX0_dataBlocks_11 : decode cX0_dataBlocks 11 = .ok (.aload_n 0, 1) := by decide +kernel
theorem dX0_dataBlocks_12 : decode cX0_dataBlocks 12 = .ok (.getfield 32, 3) := by decide +kernel
theorem dX0_dataBlocks_15 : decode cX0_dataBlocks 15 = .ok (.iload_n 2, 1) := by decide +kernel
theorem dX0_dataBlocks_16 : decode cX0_dataBlocks 16 = .ok (.invokevirtual 72, 3) := by decide +kernel
theorem dX0_dataBlocks_19 : decode cX0_dataBlocks 19 = .ok (.iadd, 1) := by decide +kernel
theorem dX0_dataBlocks_20 : decode cX0_dataBlocks 20 = .ok (.istore_n 1, 1) := by decide +kernel
theorem dX0_dataBlocks_21 : decode cX0_dataBlocks 21 = .ok (.iinc 2 1, 3) := by decide +kernel
theorem dX0_dataBlocks_24 : decode cX0_dataBlocks 24 = .ok (.goto (-20), 3) := by decide +kernel
theorem dX0_dataBlocks_27 : decode cX0_dataBlocks 27 = .ok (.iload_n 1, 1) := by decide +kernel
theorem dX0_dataBlocks_28 : decode cX0_dataBlocks 28 = .ok (.ireturn, 1) := by decide +kernel
set_option maxRecDepth 20000 in
theorem ggX0_blocksWithoutData_X0_dataBlocks : GoodIn wsX0_blocksWithoutData wsX0_dataBlocks := goodIn_r _ [5, 6, 7, 8, 9, 10, 11, 12, 13, 14, 15, 16, 17, 18, 19, 20, 21, 22, 23] (by decide +kernel) (by decide +kernel)
set_option maxRecDepth 20000 in
theorem gX0_blocksWithoutData_X0_dataBlocks : GoodIn wsX0_blocksWithoutData (wsV RX0 140 RX0 yX0_dataBlocks wsX0_dataBlocks) := goodIn_app (goodIn_of _ (by decide +kernel)) ggX0_blocksWithoutData_X0_dataBlocks
theorem dX0_blocksWithoutData_0 : decode cX0_blocksWithoutData 0 = .ok (.bipush 64, 2) := by decide +kernel
theorem dX0_blocksWithoutData_2 : decode cX0_blocksWithoutData 2 = .ok (.aload_n 0, 1) := by decide +kernel
theorem dX0_blocksWithoutData_3 : decode cX0_blocksWithoutData 3 = .ok (.invokevirtual 140, 3) := by decide +kernel
theorem dX0_blocksWithoutData_6 : decode cX0_blocksWithoutData 6 = .ok (.isub, 1) := by decide +kernel
theorem dX0_blocksWithoutData_7 : decode cX0_blocksWithoutData 7 = .ok (.ireturn, 1) := by decide +kernel
set_option maxRecDepth 20000 in
theorem ggX0_filesThatAre_X3_holds : GoodIn wsX0_filesThatAre wsX3_holds := goodIn_r _ [6, 7, 18] (by decide +kernel) (by decide +kernel)
set_option maxRecDepth 20000 in
theorem gX0_filesThatAre_X3_holds : GoodIn wsX0_filesThatAre (wsV RX0 54 RX3 yX3_holds wsX3_holds) := goodIn_app (goodIn_of _ (by decide +kernel)) ggX0_filesThatAre_X3_holds
theorem dX0_filesThatAre_0 : decode cX0_filesThatAre 0 = .ok (.iconst 0, 1) := by decide +kernel
theorem dX0_filesThatAre_1 : decode cX0_filesThatAre 1 = .ok (.istore_n 2, 1) := by decide +kernel
theorem dX0_filesThatAre_2 : decode cX0_filesThatAre 2 = .ok (.iconst 0, 1) := by decide +kernel
theorem dX0_filesThatAre_3 : decode cX0_filesThatAre 3 = .ok (.istore_n 3, 1) := by decide +kernel
theorem dX0_filesThatAre_4 : decode cX0_filesThatAre 4 = .ok (.iload_n 3, 1) := by decide +kernel
theorem dX0_filesThatAre_5 : decode cX0_filesThatAre 5 = .ok (.bipush 8, 2) := by decide +kernel
theorem dX0_filesThatAre_7 : decode cX0_filesThatAre 7 = .ok (.if_icmp .ge 24, 3) := by decide +kernel
theorem dX0_filesThatAre_10 : decode cX0_filesThatAre 10 = .ok (.aload_n 0, 1) := by decide +kernel
theorem dX0_filesThatAre_11 : decode cX0_filesThatAre 11 = .ok (.getfield 26, 3) := by decide +kernel
theorem dX0_filesThatAre_14 : decode cX0_filesThatAre 14 = .ok (.iload_n 3, 1) := by decide +kernel
theorem dX0_filesThatAre_15 : decode cX0_filesThatAre 15 = .ok (.iload_n 1, 1) := by decide +kernel
theorem dX0_filesThatAre_16 : decode cX0_filesThatAre 16 = .ok (.invokevirtual 54, 3) := by decide +kernel
theorem dX0_filesThatAre_19 : decode cX0_filesThatAre 19 = .ok (.ifCond .eq 6, 3) := by decide +kernel
theorem dX0_filesThatAre_22 : decode cX0_filesThatAre 22 = .ok (.iinc 2 1, 3) := by decide +kernel
theorem dX0_filesThatAre_25 : decode cX0_filesThatAre 25 = .ok (.iinc 3 1, 3) := by decide +kernel
theorem dX0_filesThatAre_28 : decode cX0_filesThatAre 28 = .ok (.goto (-24), 3) := by decide +kernel
theorem dX0_filesThatAre_31 : decode cX0_filesThatAre 31 = .ok (.iload_n 2, 1) := by decide +kernel
theorem dX0_filesThatAre_32 : decode cX0_filesThatAre 32 = .ok (.ireturn, 1) := by decide +kernel
set_option maxRecDepth 20000 in
theorem ggX0_lentToFilesThatAre_X3_holds : GoodIn wsX0_lentToFilesThatAre wsX3_holds := goodIn_r _ [6, 7, 29] (by decide +kernel) (by decide +kernel)
set_option maxRecDepth 20000 in
theorem gX0_lentToFilesThatAre_X3_holds : GoodIn wsX0_lentToFilesThatAre (wsV RX0 54 RX3 yX3_holds wsX3_holds) := goodIn_app (goodIn_of _ (by decide +kernel)) ggX0_lentToFilesThatAre_X3_holds
set_option maxRecDepth 20000 in
theorem ggX0_lentToFilesThatAre_X0_lentOf : GoodIn wsX0_lentToFilesThatAre wsX0_lentOf := goodIn_r _ [12, 13, 14, 15, 16, 17, 5, 18, 7, 19, 20, 21, 22, 23, 24, 25, 26, 27, 28, 29] (by decide +kernel) (by decide +kernel)
set_option maxRecDepth 20000 in
theorem gX0_lentToFilesThatAre_X0_lentOf : GoodIn wsX0_lentToFilesThatAre (wsV RX0 82 RX0 yX0_lentOf wsX0_lentOf) := goodIn_app (goodIn_of _ (by decide +kernel)) ggX0_lentToFilesThatAre_X0_lentOf
theorem dX0_lentToFilesThatAre_0 : decode cX0_lentToFilesThatAre 0 = .ok (.iconst 0, 1) := by decide +kernel
theorem dX0_lentToFilesThatAre_1 : decode cX0_lentToFilesThatAre 1 = .ok (.istore_n 2, 1) := by decide +kernel
theorem dX0_lentToFilesThatAre_2 : decode cX0_lentToFilesThatAre 2 = .ok (.iconst 0, 1) := by decide +kernel
theorem dX0_lentToFilesThatAre_3 : decode cX0_lentToFilesThatAre 3 = .ok (.istore_n 3, 1) := by decide +kernel
theorem dX0_lentToFilesThatAre_4 : decode cX0_lentToFilesThatAre 4 = .ok (.iload_n 3, 1) := by decide +kernel
theorem dX0_lentToFilesThatAre_5 : decode cX0_lentToFilesThatAre 5 = .ok (.bipush 8, 2) := by decide +kernel
theorem dX0_lentToFilesThatAre_7 : decode cX0_lentToFilesThatAre 7 = .ok (.if_icmp .ge 29, 3) := by decide +kernel
theorem dX0_lentToFilesThatAre_10 : decode cX0_lentToFilesThatAre 10 = .ok (.aload_n 0, 1) := by decide +kernel
theorem dX0_lentToFilesThatAre_11 : decode cX0_lentToFilesThatAre 11 = .ok (.getfield 26, 3) := by decide +kernel
theorem dX0_lentToFilesThatAre_14 : decode cX0_lentToFilesThatAre 14 = .ok (.iload_n 3, 1) := by decide +kernel
theorem dX0_lentToFilesThatAre_15 : decode cX0_lentToFilesThatAre 15 = .ok (.iload_n 1, 1) := by decide +kernel
theorem dX0_lentToFilesThatAre_16 : decode cX0_lentToFilesThatAre 16 = .ok (.invokevirtual 54, 3) := by decide +kernel
theorem dX0_lentToFilesThatAre_19 : decode cX0_lentToFilesThatAre 19 = .ok (.ifCond .eq 11, 3) := by decide +kernel
theorem dX0_lentToFilesThatAre_22 : decode cX0_lentToFilesThatAre 22 = .ok (.iload_n 2, 1) := by decide +kernel
theorem dX0_lentToFilesThatAre_23 : decode cX0_lentToFilesThatAre 23 = .ok (.aload_n 0, 1) := by decide +kernel
theorem dX0_lentToFilesThatAre_24 : decode cX0_lentToFilesThatAre 24 = .ok (.iload_n 3, 1) := by decide +kernel
theorem dX0_lentToFilesThatAre_25 : decode cX0_lentToFilesThatAre 25 = .ok (.invokevirtual 82, 3) := by decide +kernel
theorem dX0_lentToFilesThatAre_28 : decode cX0_lentToFilesThatAre 28 = .ok (.iadd, 1) := by decide +kernel
theorem dX0_lentToFilesThatAre_29 : decode cX0_lentToFilesThatAre 29 = .ok (.istore_n 2, 1) := by decide +kernel
theorem dX0_lentToFilesThatAre_30 : decode cX0_lentToFilesThatAre 30 = .ok (.iinc 3 1, 3) := by decide +kernel
theorem dX0_lentToFilesThatAre_33 : decode cX0_lentToFilesThatAre 33 = .ok (.goto (-29), 3) := by decide +kernel
theorem dX0_lentToFilesThatAre_36 : decode cX0_lentToFilesThatAre 36 = .ok (.iload_n 2, 1) := by decide +kernel
theorem dX0_lentToFilesThatAre_37 : decode cX0_lentToFilesThatAre 37 = .ok (.ireturn, 1) := by decide +kernel
set_option maxRecDepth 20000 in
theorem ggX0_filesWithBlocks_X3_at : GoodIn wsX0_filesWithBlocks wsX3_at := goodIn_r _ [6, 7, 18] (by decide +kernel) (by decide +kernel)
set_option maxRecDepth 20000 in
theorem gX0_filesWithBlocks_X3_at : GoodIn wsX0_filesWithBlocks (wsV RX0 72 RX3 yX3_at wsX3_at) := goodIn_app (goodIn_of _ (by decide +kernel)) ggX0_filesWithBlocks_X3_at
theorem dX0_filesWithBlocks_0 : decode cX0_filesWithBlocks 0 = .ok (.iconst 0, 1) := by decide +kernel
theorem dX0_filesWithBlocks_1 : decode cX0_filesWithBlocks 1 = .ok (.istore_n 1, 1) := by decide +kernel
theorem dX0_filesWithBlocks_2 : decode cX0_filesWithBlocks 2 = .ok (.iconst 0, 1) := by decide +kernel
theorem dX0_filesWithBlocks_3 : decode cX0_filesWithBlocks 3 = .ok (.istore_n 2, 1) := by decide +kernel
theorem dX0_filesWithBlocks_4 : decode cX0_filesWithBlocks 4 = .ok (.iload_n 2, 1) := by decide +kernel
theorem dX0_filesWithBlocks_5 : decode cX0_filesWithBlocks 5 = .ok (.bipush 8, 2) := by decide +kernel
theorem dX0_filesWithBlocks_7 : decode cX0_filesWithBlocks 7 = .ok (.if_icmp .ge 23, 3) := by decide +kernel
theorem dX0_filesWithBlocks_10 : decode cX0_filesWithBlocks 10 = .ok (.aload_n 0, 1) := by decide +kernel
theorem dX0_filesWithBlocks_11 : decode cX0_filesWithBlocks 11 = .ok (.getfield 29, 3) := by decide +kernel
theorem dX0_filesWithBlocks_14 : decode cX0_filesWithBlocks 14 = .ok (.iload_n 2, 1) := by decide +kernel
theorem dX0_filesWithBlocks_15 : decode cX0_filesWithBlocks 15 = .ok (.invokevirtual 72, 3) := by decide +kernel
theorem dX0_filesWithBlocks_18 : decode cX0_filesWithBlocks 18 = .ok (.ifCond .le 6, 3) := by decide +kernel
theorem dX0_filesWithBlocks_21 : decode cX0_filesWithBlocks 21 = .ok (.iinc 1 1, 3) := by decide +kernel
theorem dX0_filesWithBlocks_24 : decode cX0_filesWithBlocks 24 = .ok (.iinc 2 1, 3) := by decide +kernel
theorem dX0_filesWithBlocks_27 : decode cX0_filesWithBlocks 27 = .ok (.goto (-23), 3) := by decide +kernel
theorem dX0_filesWithBlocks_30 : decode cX0_filesWithBlocks 30 = .ok (.iload_n 1, 1) := by decide +kernel
theorem dX0_filesWithBlocks_31 : decode cX0_filesWithBlocks 31 = .ok (.ireturn, 1) := by decide +kernel
set_option maxRecDepth 20000 in
theorem ggX0_allExtents_X0_extentsOf : GoodIn wsX0_allExtents wsX0_extentsOf := goodIn_r _ [5, 6, 7, 8, 9, 10, 11, 12, 13, 14, 15, 4, 16, 17, 18, 19, 20, 21, 22, 23, 24, 25, 26, 27, 28, 29, 30, 31, 32] (by decide +kernel) (by decide +kernel)
set_option maxRecDepth 20000 in
theorem gX0_allExtents_X0_extentsOf : GoodIn wsX0_allExtents (wsV RX0 95 RX0 yX0_extentsOf wsX0_extentsOf) := goodIn_app (goodIn_of _ (by decide +kernel)) ggX0_allExtents_X0_extentsOf
theorem dX0_allExtents_0 : decode cX0_allExtents 0 = .ok (.iconst 0, 1) := by decide +kernel
theorem dX0_allExtents_1 : decode cX0_allExtents 1 = .ok (.istore_n 1, 1) := by decide +kernel
theorem dX0_allExtents_2 : decode cX0_allExtents 2 = .ok (.iconst 0, 1) := by decide +kernel
theorem dX0_allExtents_3 : decode cX0_allExtents 3 = .ok (.istore_n 2, 1) := by decide +kernel
theorem dX0_allExtents_4 : decode cX0_allExtents 4 = .ok (.iload_n 2, 1) := by decide +kernel
theorem dX0_allExtents_5 : decode cX0_allExtents 5 = .ok (.bipush 8, 2) := by decide +kernel
theorem dX0_allExtents_7 : decode cX0_allExtents 7 = .ok (.if_icmp .ge 17, 3) := by decide +kernel
theorem dX0_allExtents_10 : decode cX0_allExtents 10 = .ok (.iload_n 1, 1) := by decide +kernel
theorem dX0_allExtents_11 : decode cX0_allExtents 11 = .ok (.aload_n 0, 1) := by decide +kernel
theorem dX0_allExtents_12 : decode cX0_allExtents 12 = .ok (.iload_n 2, 1) := by decide +kernel
theorem dX0_allExtents_13 : decode cX0_allExtents 13 = .ok (.invokevirtual 95, 3) := by decide +kernel
theorem dX0_allExtents_16 : decode cX0_allExtents 16 = .ok (.iadd, 1) := by decide +kernel
theorem dX0_allExtents_17 : decode cX0_allExtents 17 = .ok (.istore_n 1, 1) := by decide +kernel
theorem dX0_allExtents_18 : decode cX0_allExtents 18 = .ok (.iinc 2 1, 3) := by decide +kernel
theorem dX0_allExtents_21 : decode cX0_allExtents 21 = .ok (.goto (-17), 3) := by decide +kernel
theorem dX0_allExtents_24 : decode cX0_allExtents 24 = .ok (.iload_n 1, 1) := by decide +kernel
theorem dX0_allExtents_25 : decode cX0_allExtents 25 = .ok (.ireturn, 1) := by decide +kernel
theorem ok_X0_createFile : gOk yX0_createFile RX0 0 := by refine ⟨?_, ?_, ?_, ?_⟩ <;> decide +kernel
theorem ok_X0_isFile : gOk yX0_isFile RX0 1 := by refine ⟨?_, ?_, ?_, ?_⟩ <;> decide +kernel
theorem ok_X0_isOpen : gOk yX0_isOpen RX0 1 := by refine ⟨?_, ?_, ?_, ?_⟩ <;> decide +kernel
theorem ok_X0_filesThatAre : gOk yX0_filesThatAre RX0 1 := by refine ⟨?_, ?_, ?_, ?_⟩ <;> decide +kernel
theorem ok_X0_openFile : gOk yX0_openFile RX0 1 := by refine ⟨?_, ?_, ?_, ?_⟩ <;> decide +kernel
theorem ok_X0_lentOf : gOk yX0_lentOf RX0 1 := by refine ⟨?_, ?_, ?_, ?_⟩ <;> decide +kernel
theorem ok_X0_freeFrom : gOk yX0_freeFrom RX0 2 := by refine ⟨?_, ?_, ?_, ?_⟩ <;> decide +kernel
theorem ok_X0_giveBack : gOk yX0_giveBack RX0 1 := by refine ⟨?_, ?_, ?_, ?_⟩ <;> decide +kernel
theorem ok_X0_closeFile : gOk yX0_closeFile RX0 1 := by refine ⟨?_, ?_, ?_, ?_⟩ <;> decide +kernel
theorem ok_X0_removeFile : gOk yX0_removeFile RX0 1 := by refine ⟨?_, ?_, ?_, ?_⟩ <;> decide +kernel
theorem ok_X0_syncFile : gOk yX0_syncFile RX0 1 := by refine ⟨?_, ?_, ?_, ?_⟩ <;> decide +kernel
theorem ok_X0_dataBlocks : gOk yX0_dataBlocks RX0 0 := by refine ⟨?_, ?_, ?_, ?_⟩ <;> decide +kernel
theorem ok_X0_blocksWithoutData : gOk yX0_blocksWithoutData RX0 0 := by refine ⟨?_, ?_, ?_, ?_⟩ <;> decide +kernel
theorem ok_X0_freeBlocks : gOk yX0_freeBlocks RX0 0 := by refine ⟨?_, ?_, ?_, ?_⟩ <;> decide +kernel
theorem ok_X0_greatestLender : gOk yX0_greatestLender RX0 1 := by refine ⟨?_, ?_, ?_, ?_⟩ <;> decide +kernel
theorem ok_X0_takeBack : gOk yX0_takeBack RX0 2 := by refine ⟨?_, ?_, ?_, ?_⟩ <;> decide +kernel
theorem ok_X0_blockAt : gOk yX0_blockAt RX0 2 := by refine ⟨?_, ?_, ?_, ?_⟩ <;> decide +kernel
theorem ok_X0_addFrom : gOk yX0_addFrom RX0 3 := by refine ⟨?_, ?_, ?_, ?_⟩ <;> decide +kernel
theorem ok_X0_runFrom : gOk yX0_runFrom RX0 1 := by refine ⟨?_, ?_, ?_, ?_⟩ <;> decide +kernel
theorem ok_X0_isBetter : gOk yX0_isBetter RX0 3 := by refine ⟨?_, ?_, ?_, ?_⟩ <;> decide +kernel
theorem ok_X0_chosenRun : gOk yX0_chosenRun RX0 1 := by refine ⟨?_, ?_, ?_, ?_⟩ <;> decide +kernel
theorem ok_X0_lengthen : gOk yX0_lengthen RX0 2 := by refine ⟨?_, ?_, ?_, ?_⟩ <;> decide +kernel
theorem ok_X0_isPart : gOk yX0_isPart RX0 4 := by refine ⟨?_, ?_, ?_, ?_⟩ <;> decide +kernel
theorem ok_X0_write : gOk yX0_write RX0 3 := by refine ⟨?_, ?_, ?_, ?_⟩ <;> decide +kernel
theorem ok_X0_beginsExtent : gOk yX0_beginsExtent RX0 1 := by refine ⟨?_, ?_, ?_, ?_⟩ <;> decide +kernel
theorem ok_X0_extentsOf : gOk yX0_extentsOf RX0 1 := by refine ⟨?_, ?_, ?_, ?_⟩ <;> decide +kernel
theorem ok_X0_appendTo : gOk yX0_appendTo RX0 3 := by refine ⟨?_, ?_, ?_, ?_⟩ <;> decide +kernel
theorem ok_X0_cutFile : gOk yX0_cutFile RX0 2 := by refine ⟨?_, ?_, ?_, ?_⟩ <;> decide +kernel
theorem ok_X0_crashAll : gOk yX0_crashAll RX0 0 := by refine ⟨?_, ?_, ?_, ?_⟩ <;> decide +kernel
theorem ok_X0_mendAll : gOk yX0_mendAll RX0 0 := by refine ⟨?_, ?_, ?_, ?_⟩ <;> decide +kernel
theorem ok_X0_changeSetting : gOk yX0_changeSetting RX0 2 := by refine ⟨?_, ?_, ?_, ?_⟩ <;> decide +kernel
theorem ok_X0_ownerOf : gOk yX0_ownerOf RX0 1 := by refine ⟨?_, ?_, ?_, ?_⟩ <;> decide +kernel
theorem ok_X0_placeOf : gOk yX0_placeOf RX0 1 := by refine ⟨?_, ?_, ?_, ?_⟩ <;> decide +kernel
theorem ok_X0_stampOf : gOk yX0_stampOf RX0 1 := by refine ⟨?_, ?_, ?_, ?_⟩ <;> decide +kernel
theorem ok_X0_useOf : gOk yX0_useOf RX0 1 := by refine ⟨?_, ?_, ?_, ?_⟩ <;> decide +kernel
theorem ok_X0_sizeOf : gOk yX0_sizeOf RX0 1 := by refine ⟨?_, ?_, ?_, ?_⟩ <;> decide +kernel
theorem ok_X0_safeSizeOf : gOk yX0_safeSizeOf RX0 1 := by refine ⟨?_, ?_, ?_, ?_⟩ <;> decide +kernel
theorem ok_X0_lendOf : gOk yX0_lendOf RX0 1 := by refine ⟨?_, ?_, ?_, ?_⟩ <;> decide +kernel
theorem ok_X0_placeOfExtent : gOk yX0_placeOfExtent RX0 2 := by refine ⟨?_, ?_, ?_, ?_⟩ <;> decide +kernel
theorem ok_X0_extentFrom : gOk yX0_extentFrom RX0 2 := by refine ⟨?_, ?_, ?_, ?_⟩ <;> decide +kernel
theorem ok_X0_sumOfStamps : gOk yX0_sumOfStamps RX0 3 := by refine ⟨?_, ?_, ?_, ?_⟩ <;> decide +kernel
theorem ok_X0_firstOfRun : gOk yX0_firstOfRun RX0 1 := by refine ⟨?_, ?_, ?_, ?_⟩ <;> decide +kernel
theorem ok_X0_freeRuns : gOk yX0_freeRuns RX0 0 := by refine ⟨?_, ?_, ?_, ?_⟩ <;> decide +kernel
theorem ok_X0_longestRun : gOk yX0_longestRun RX0 0 := by refine ⟨?_, ?_, ?_, ?_⟩ <;> decide +kernel
theorem ok_X0_totalOf : gOk yX0_totalOf RX0 1 := by refine ⟨?_, ?_, ?_, ?_⟩ <;> decide +kernel
theorem ok_X0_lentToFilesThatAre : gOk yX0_lentToFilesThatAre RX0 1 := by refine ⟨?_, ?_, ?_, ?_⟩ <;> decide +kernel
theorem ok_X0_filesWithBlocks : gOk yX0_filesWithBlocks RX0 0 := by refine ⟨?_, ?_, ?_, ?_⟩ <;> decide +kernel
theorem ok_X0_allExtents : gOk yX0_allExtents RX0 0 := by refine ⟨?_, ?_, ?_, ?_⟩ <;> decide +kernel
abbrev rm_X0_createFile : Room := ({ frames := 1, cells := 0, slots := 0, locals := 22 } : Room)
def f_X0_createFile_L2  : Nat → Int32 → (Nat → Nat → Int32) → Option (Int32 × (Nat → Nat → Int32))
  | 0, _, _ => none
  | fu + 1, v1, d => if 8 ≤ v1 then some ((-3), d) else gb (f_X3_holds 8 (d 3) v1 0) (fun r2 => if r2 = 0 then glet (v1 + 1) (fun x4 => f_X0_createFile_L2 fu x4 d) else gb (f_X3_put 8 (d 3) v1 1) (fun w5 => glet (va_up d 3 w5) (fun d6 => gb (f_X3_put 8 (d6 4) v1 0) (fun w7 => glet (va_up d6 4 w7) (fun d8 => gb (f_X3_put 8 (d8 5) v1 0) (fun w9 => glet (va_up d8 5 w9) (fun d10 => gb (f_X3_put 8 (d10 6) v1 0) (fun w11 => glet (va_up d10 6 w11) (fun d12 => gb (f_X3_put 8 (d12 7) v1 1) (fun w13 => glet (va_up d12 7 w13) (fun d14 => some (v1, d14))))))))))))
def f_X0_createFile (d : Nat → Nat → Int32) : Option (Int32 × (Nat → Nat → Int32)) := f_X0_createFile_L2 gFu 0 d
set_option maxRecDepth 20000 in
theorem in_X0_createFile : ∀ w ∈ wsX00, w ∈ wsX0_createFile := by decide +kernel
set_option maxRecDepth 20000 in
theorem fl_X0_createFile_38 : Cond.fieldLink RX0 38 (TX0 7).1 (TX0 7).2.1 (TX0 7).2.2.1 ∈ wsX0_createFile := by decide +kernel
set_option maxRecDepth 20000 in
theorem fl_X0_createFile_35 : Cond.fieldLink RX0 35 (TX0 6).1 (TX0 6).2.1 (TX0 6).2.2.1 ∈ wsX0_createFile := by decide +kernel
set_option maxRecDepth 20000 in
theorem fl_X0_createFile_32 : Cond.fieldLink RX0 32 (TX0 5).1 (TX0 5).2.1 (TX0 5).2.2.1 ∈ wsX0_createFile := by decide +kernel
set_option maxRecDepth 20000 in
theorem fl_X0_createFile_29 : Cond.fieldLink RX0 29 (TX0 4).1 (TX0 4).2.1 (TX0 4).2.2.1 ∈ wsX0_createFile := by decide +kernel
set_option maxRecDepth 20000 in
theorem fl_X0_createFile_26 : Cond.fieldLink RX0 26 (TX0 3).1 (TX0 3).2.1 (TX0 3).2.2.1 ∈ wsX0_createFile := by decide +kernel
set_option maxHeartbeats 4000000 in
set_option maxRecDepth 100000 in
theorem cl_X0_createFile_L2 {X : gX} {Z : gZ} {ad : Nat → Nat}  {r : Int32} {d' : Nat → Nat → Int32} (C : GC X Z cX0_createFile 2 wsX0_createFile RX0 rm_X0_createFile 21 ad) (e : gEI X Z 21 ad .int r (dskE Z.2.1 ad d'))  : ∀ (fu : Nat) (v1 : Int32) (d : Nat → Nat → Int32) (h : f_X0_createFile_L2  fu v1 d = some (r, d')), GG X Z 2 21 ad (dskE Z.2.1 ad d) 2 [(0, .ref (ad 0)), (1, .int v1)] [] := by
  intro fu
  induction fu with
  | zero => intro v1 d h; cases h
  | succ fu ih =>
    intro v1 d h
    rw [f_X0_createFile_L2] at h
    refine g_iload_n C dX0_createFile_2 1 rfl ?_
    refine g_bipush (v := 8) C dX0_createFile_3 (by decide) ?_
    refine g_icmp_ge (tgt := 73) C dX0_createFile_5 (by decide) (fun c1 => ?_) (fun c1 => ?_)
    · replace h := gi_pos c1 h
      refine g_bipush (v := (-3)) C dX0_createFile_73 (by decide) ?_
      obtain ⟨rfl, rfl⟩ := gs2 h
      exact g_iret C e dX0_createFile_75
    · replace h := gi_neg c1 h
      refine g_aload_n C dX0_createFile_8 0 rfl ?_
      refine g_getf (v := .ref (ad 7)) C 0 (by decide) rfl rfl in_X0_createFile 3 (by decide) fl_X0_createFile_26 rfl dX0_createFile_9 ?_
      refine g_iload_n C dX0_createFile_12 1 rfl ?_
      refine g_iconst (v := 0) C dX0_createFile_13 (by decide) ?_
      obtain ⟨r2, er2, h⟩ := gb1 h
      refine g_callVi (rest := []) C gX0_createFile_X3_holds rfl ok_X3_holds ⟨by decide, by decide⟩ ⟨rfl, rfl⟩ 7 2 (by decide) (adc := fun i => ad (7 + i)) (fun _ _ => rfl) (dskE_row 3 (by decide)) 0 (by decide) rfl rfl (fun hI => cn_X3_holds X.2.1 Z (fun i => ad (7 + i)) hI 8 (d 3) v1 0 er2) rfl dX0_createFile_14 rfl (Nat.le_of_ble_eq_true rfl) (dskE Z.2.1 ad d) (dskE_id 3 (by decide)) ?_
      refine g_if_eq (tgt := 67) C dX0_createFile_17 (by decide) (fun c3 => ?_) (fun c3 => ?_)
      · replace h := gi_pos c3 h
        obtain ⟨x4, ex4, h⟩ := gl h
        refine g_iinc (v := x4) C dX0_createFile_67 1 rfl (by rw [ex4]; rfl) (by decide) [(1, .int x4), (0, .ref (ad 0))] rfl ?_
        refine g_goto (tgt := 2) C dX0_createFile_70 (by decide) ?_
        exact g_sub [1, 0] rfl (ih x4 d h)
      · replace h := gi_neg c3 h
        refine g_aload_n C dX0_createFile_20 0 rfl ?_
        refine g_getf (v := .ref (ad 7)) C 0 (by decide) rfl rfl in_X0_createFile 3 (by decide) fl_X0_createFile_26 rfl dX0_createFile_21 ?_
        refine g_iload_n C dX0_createFile_24 1 rfl ?_
        refine g_iconst (v := 1) C dX0_createFile_25 (by decide) ?_
        obtain ⟨w5, ew5, h⟩ := gb1 h
        obtain ⟨d6, ed6, h⟩ := gl h
        refine g_callVv (rest := []) C gX0_createFile_X3_put rfl ok_X3_put ⟨by decide, by decide⟩ ⟨rfl, rfl⟩ 7 2 (by decide) (adc := fun i => ad (7 + i)) (fun _ _ => rfl) (dskE_row 3 (by decide)) 0 (by decide) rfl rfl (fun hI => cn_X3_put X.2.1 Z (fun i => ad (7 + i)) hI 8 (d 3) v1 1 ew5) rfl dX0_createFile_26 rfl (Nat.le_of_ble_eq_true rfl) (dskE Z.2.1 ad d6) (by rw [ed6]; exact (dskE_up 3 (by decide))) ?_
        refine g_aload_n C dX0_createFile_29 0 rfl ?_
        refine g_getf (v := .ref (ad 9)) C 0 (by decide) rfl rfl in_X0_createFile 4 (by decide) fl_X0_createFile_29 rfl dX0_createFile_30 ?_
        refine g_iload_n C dX0_createFile_33 1 rfl ?_
        refine g_iconst (v := 0) C dX0_createFile_34 (by decide) ?_
        obtain ⟨w7, ew7, h⟩ := gb1 h
        obtain ⟨d8, ed8, h⟩ := gl h
        refine g_callVv (rest := []) C gX0_createFile_X3_put rfl ok_X3_put ⟨by decide, by decide⟩ ⟨rfl, rfl⟩ 9 2 (by decide) (adc := fun i => ad (9 + i)) (fun _ _ => rfl) (dskE_row 4 (by decide)) 0 (by decide) rfl rfl (fun hI => cn_X3_put X.2.1 Z (fun i => ad (9 + i)) hI 8 (d6 4) v1 0 ew7) rfl dX0_createFile_35 rfl (Nat.le_of_ble_eq_true rfl) (dskE Z.2.1 ad d8) (by rw [ed8]; exact (dskE_up 4 (by decide))) ?_
        refine g_aload_n C dX0_createFile_38 0 rfl ?_
        refine g_getf (v := .ref (ad 11)) C 0 (by decide) rfl rfl in_X0_createFile 5 (by decide) fl_X0_createFile_32 rfl dX0_createFile_39 ?_
        refine g_iload_n C dX0_createFile_42 1 rfl ?_
        refine g_iconst (v := 0) C dX0_createFile_43 (by decide) ?_
        obtain ⟨w9, ew9, h⟩ := gb1 h
        obtain ⟨d10, ed10, h⟩ := gl h
        refine g_callVv (rest := []) C gX0_createFile_X3_put rfl ok_X3_put ⟨by decide, by decide⟩ ⟨rfl, rfl⟩ 11 2 (by decide) (adc := fun i => ad (11 + i)) (fun _ _ => rfl) (dskE_row 5 (by decide)) 0 (by decide) rfl rfl (fun hI => cn_X3_put X.2.1 Z (fun i => ad (11 + i)) hI 8 (d8 5) v1 0 ew9) rfl dX0_createFile_44 rfl (Nat.le_of_ble_eq_true rfl) (dskE Z.2.1 ad d10) (by rw [ed10]; exact (dskE_up 5 (by decide))) ?_
        refine g_aload_n C dX0_createFile_47 0 rfl ?_
        refine g_getf (v := .ref (ad 13)) C 0 (by decide) rfl rfl in_X0_createFile 6 (by decide) fl_X0_createFile_35 rfl dX0_createFile_48 ?_
        refine g_iload_n C dX0_createFile_51 1 rfl ?_
        refine g_iconst (v := 0) C dX0_createFile_52 (by decide) ?_
        obtain ⟨w11, ew11, h⟩ := gb1 h
        obtain ⟨d12, ed12, h⟩ := gl h
        refine g_callVv (rest := []) C gX0_createFile_X3_put rfl ok_X3_put ⟨by decide, by decide⟩ ⟨rfl, rfl⟩ 13 2 (by decide) (adc := fun i => ad (13 + i)) (fun _ _ => rfl) (dskE_row 6 (by decide)) 0 (by decide) rfl rfl (fun hI => cn_X3_put X.2.1 Z (fun i => ad (13 + i)) hI 8 (d10 6) v1 0 ew11) rfl dX0_createFile_53 rfl (Nat.le_of_ble_eq_true rfl) (dskE Z.2.1 ad d12) (by rw [ed12]; exact (dskE_up 6 (by decide))) ?_
        refine g_aload_n C dX0_createFile_56 0 rfl ?_
        refine g_getf (v := .ref (ad 15)) C 0 (by decide) rfl rfl in_X0_createFile 7 (by decide) fl_X0_createFile_38 rfl dX0_createFile_57 ?_
        refine g_iload_n C dX0_createFile_60 1 rfl ?_
        refine g_iconst (v := 1) C dX0_createFile_61 (by decide) ?_
        obtain ⟨w13, ew13, h⟩ := gb1 h
        obtain ⟨d14, ed14, h⟩ := gl h
        refine g_callVv (rest := []) C gX0_createFile_X3_put rfl ok_X3_put ⟨by decide, by decide⟩ ⟨rfl, rfl⟩ 15 2 (by decide) (adc := fun i => ad (15 + i)) (fun _ _ => rfl) (dskE_row 7 (by decide)) 0 (by decide) rfl rfl (fun hI => cn_X3_put X.2.1 Z (fun i => ad (15 + i)) hI 8 (d12 7) v1 1 ew13) rfl dX0_createFile_62 rfl (Nat.le_of_ble_eq_true rfl) (dskE Z.2.1 ad d14) (by rw [ed14]; exact (dskE_up 7 (by decide))) ?_
        refine g_iload_n C dX0_createFile_65 1 rfl ?_
        obtain ⟨rfl, rfl⟩ := gs2 h
        exact g_iret C e dX0_createFile_66
set_option maxHeartbeats 4000000 in
set_option maxRecDepth 100000 in
theorem cn_X0_createFile (l : Launch) (Z : gZ) (ad : Nat → Nat) (hI : gInj 21 ad) (d : Nat → Nat → Int32) {r : Int32} {d' : Nat → Nat → Int32} (h : f_X0_createFile d = some (r, d')) : gI l yX0_createFile wsX0_createFile rm_X0_createFile Z 21 ad [.ref (ad 0)] (dskE Z.2.1 ad d) r (dskE Z.2.1 ad d') := by
  refine g_entryI (cc := cX0_createFile) (maxL := 2) (by decide +kernel) rfl hI (Nat.le_of_ble_eq_true rfl) (fun X C e => ?_)
  unfold f_X0_createFile at h
  show GG X Z 2 21 ad (dskE Z.2.1 ad d) 0 [(0, .ref (ad 0))] []
  refine g_iconst (v := 0) C dX0_createFile_0 (by decide) ?_
  refine g_istore_n C dX0_createFile_1 (by decide) [(1, .int 0), (0, .ref (ad 0))] rfl ?_
  exact g_sub [1, 0] rfl (cl_X0_createFile_L2 C e gFu 0 d h)
abbrev rm_X0_isFile : Room := ({ frames := 1, cells := 0, slots := 0, locals := 22 } : Room)
def f_X0_isFile (d : Nat → Nat → Int32) (v1 : Int32) : Option Int32 := gb (f_X3_holds 8 (d 3) v1 2) (fun r1 => if r1 = 0 then gb (f_X3_holds 8 (d 3) v1 1) (fun r3 => if r3 = 0 then some 0 else some 1) else some 1)
set_option maxRecDepth 20000 in
theorem in_X0_isFile : ∀ w ∈ wsX00, w ∈ wsX0_isFile := by decide +kernel
set_option maxRecDepth 20000 in
theorem fl_X0_isFile_26 : Cond.fieldLink RX0 26 (TX0 3).1 (TX0 3).2.1 (TX0 3).2.2.1 ∈ wsX0_isFile := by decide +kernel
set_option maxHeartbeats 4000000 in
set_option maxRecDepth 100000 in
theorem cn_X0_isFile (l : Launch) (Z : gZ) (ad : Nat → Nat) (hI : gInj 21 ad) (d : Nat → Nat → Int32) (v1 : Int32) {r : Int32} (h : f_X0_isFile d v1 = some r) : gI l yX0_isFile wsX0_isFile rm_X0_isFile Z 21 ad [.ref (ad 0), .int v1] (dskE Z.2.1 ad d) r (dskE Z.2.1 ad d) := by
  refine g_entryI (cc := cX0_isFile) (maxL := 2) (by decide +kernel) rfl hI (Nat.le_of_ble_eq_true rfl) (fun X C e => ?_)
  unfold f_X0_isFile at h
  show GG X Z 2 21 ad (dskE Z.2.1 ad d) 0 [(0, .ref (ad 0)), (1, .int v1)] []
  refine g_aload_n C dX0_isFile_0 0 rfl ?_
  refine g_getf (v := .ref (ad 7)) C 0 (by decide) rfl rfl in_X0_isFile 3 (by decide) fl_X0_isFile_26 rfl dX0_isFile_1 ?_
  refine g_iload_n C dX0_isFile_4 1 rfl ?_
  refine g_iconst (v := 2) C dX0_isFile_5 (by decide) ?_
  obtain ⟨r1, er1, h⟩ := gb1 h
  refine g_callVi (rest := []) C gX0_isFile_X3_holds rfl ok_X3_holds ⟨by decide, by decide⟩ ⟨rfl, rfl⟩ 7 2 (by decide) (adc := fun i => ad (7 + i)) (fun _ _ => rfl) (dskE_row 3 (by decide)) 0 (by decide) rfl rfl (fun hI => cn_X3_holds X.2.1 Z (fun i => ad (7 + i)) hI 8 (d 3) v1 2 er1) rfl dX0_isFile_6 rfl (Nat.le_of_ble_eq_true rfl) (dskE Z.2.1 ad d) (dskE_id 3 (by decide)) ?_
  refine g_if_ne (tgt := 24) C dX0_isFile_9 (by decide) (fun c2 => ?_) (fun c2 => ?_)
  · replace h := gi_neg c2 h
    refine g_iconst (v := 1) C dX0_isFile_24 (by decide) ?_
    refine g_goto (tgt := 29) C dX0_isFile_25 (by decide) ?_
    obtain rfl := gs1 h
    exact g_zret C e rfl dX0_isFile_29
  · replace h := gi_pos c2 h
    refine g_aload_n C dX0_isFile_12 0 rfl ?_
    refine g_getf (v := .ref (ad 7)) C 0 (by decide) rfl rfl in_X0_isFile 3 (by decide) fl_X0_isFile_26 rfl dX0_isFile_13 ?_
    refine g_iload_n C dX0_isFile_16 1 rfl ?_
    refine g_iconst (v := 1) C dX0_isFile_17 (by decide) ?_
    obtain ⟨r3, er3, h⟩ := gb1 h
    refine g_callVi (rest := []) C gX0_isFile_X3_holds rfl ok_X3_holds ⟨by decide, by decide⟩ ⟨rfl, rfl⟩ 7 2 (by decide) (adc := fun i => ad (7 + i)) (fun _ _ => rfl) (dskE_row 3 (by decide)) 0 (by decide) rfl rfl (fun hI => cn_X3_holds X.2.1 Z (fun i => ad (7 + i)) hI 8 (d 3) v1 1 er3) rfl dX0_isFile_18 rfl (Nat.le_of_ble_eq_true rfl) (dskE Z.2.1 ad d) (dskE_id 3 (by decide)) ?_
    refine g_if_eq (tgt := 28) C dX0_isFile_21 (by decide) (fun c4 => ?_) (fun c4 => ?_)
    · replace h := gi_pos c4 h
      refine g_iconst (v := 0) C dX0_isFile_28 (by decide) ?_
      obtain rfl := gs1 h
      exact g_zret C e rfl dX0_isFile_29
    · replace h := gi_neg c4 h
      refine g_iconst (v := 1) C dX0_isFile_24 (by decide) ?_
      refine g_goto (tgt := 29) C dX0_isFile_25 (by decide) ?_
      obtain rfl := gs1 h
      exact g_zret C e rfl dX0_isFile_29
abbrev rm_X0_isOpen : Room := ({ frames := 1, cells := 0, slots := 0, locals := 22 } : Room)
def f_X0_isOpen (d : Nat → Nat → Int32) (v1 : Int32) : Option Int32 := gb (f_X3_holds 8 (d 3) v1 2) (fun r1 => if r1 = 0 ∨ r1 = 1 then some r1 else none)
set_option maxRecDepth 20000 in
theorem in_X0_isOpen : ∀ w ∈ wsX00, w ∈ wsX0_isOpen := by decide +kernel
set_option maxRecDepth 20000 in
theorem fl_X0_isOpen_26 : Cond.fieldLink RX0 26 (TX0 3).1 (TX0 3).2.1 (TX0 3).2.2.1 ∈ wsX0_isOpen := by decide +kernel
set_option maxHeartbeats 4000000 in
set_option maxRecDepth 100000 in
theorem cn_X0_isOpen (l : Launch) (Z : gZ) (ad : Nat → Nat) (hI : gInj 21 ad) (d : Nat → Nat → Int32) (v1 : Int32) {r : Int32} (h : f_X0_isOpen d v1 = some r) : gI l yX0_isOpen wsX0_isOpen rm_X0_isOpen Z 21 ad [.ref (ad 0), .int v1] (dskE Z.2.1 ad d) r (dskE Z.2.1 ad d) := by
  refine g_entryI (cc := cX0_isOpen) (maxL := 2) (by decide +kernel) rfl hI (Nat.le_of_ble_eq_true rfl) (fun X C e => ?_)
  unfold f_X0_isOpen at h
  show GG X Z 2 21 ad (dskE Z.2.1 ad d) 0 [(0, .ref (ad 0)), (1, .int v1)] []
  refine g_aload_n C dX0_isOpen_0 0 rfl ?_
  refine g_getf (v := .ref (ad 7)) C 0 (by decide) rfl rfl in_X0_isOpen 3 (by decide) fl_X0_isOpen_26 rfl dX0_isOpen_1 ?_
  refine g_iload_n C dX0_isOpen_4 1 rfl ?_
  refine g_iconst (v := 2) C dX0_isOpen_5 (by decide) ?_
  obtain ⟨r1, er1, h⟩ := gb1 h
  refine g_callVi (rest := []) C gX0_isOpen_X3_holds rfl ok_X3_holds ⟨by decide, by decide⟩ ⟨rfl, rfl⟩ 7 2 (by decide) (adc := fun i => ad (7 + i)) (fun _ _ => rfl) (dskE_row 3 (by decide)) 0 (by decide) rfl rfl (fun hI => cn_X3_holds X.2.1 Z (fun i => ad (7 + i)) hI 8 (d 3) v1 2 er1) rfl dX0_isOpen_6 rfl (Nat.le_of_ble_eq_true rfl) (dskE Z.2.1 ad d) (dskE_id 3 (by decide)) ?_
  obtain ⟨b2, h⟩ := gguard h
  obtain rfl := gs1 h
  exact g_zret C e (g_b01 b2) dX0_isOpen_9
abbrev rm_X0_filesThatAre : Room := ({ frames := 1, cells := 0, slots := 0, locals := 22 } : Room)
def f_X0_filesThatAre_L4 (d : Nat → Nat → Int32) (v1 : Int32) : Nat → Int32 → Int32 → Option Int32
  | 0, _, _ => none
  | fu + 1, v2, v3 => if 8 ≤ v3 then some v2 else gb (f_X3_holds 8 (d 3) v3 v1) (fun r2 => if r2 = 0 then glet (v3 + 1) (fun x4 => f_X0_filesThatAre_L4 d v1 fu v2 x4) else glet (v2 + 1) (fun x5 => glet (v3 + 1) (fun x6 => f_X0_filesThatAre_L4 d v1 fu x5 x6)))
def f_X0_filesThatAre (d : Nat → Nat → Int32) (v1 : Int32) : Option Int32 := f_X0_filesThatAre_L4 d v1 gFu 0 0
set_option maxRecDepth 20000 in
theorem in_X0_filesThatAre : ∀ w ∈ wsX00, w ∈ wsX0_filesThatAre := by decide +kernel
set_option maxRecDepth 20000 in
theorem fl_X0_filesThatAre_26 : Cond.fieldLink RX0 26 (TX0 3).1 (TX0 3).2.1 (TX0 3).2.2.1 ∈ wsX0_filesThatAre := by decide +kernel
set_option maxHeartbeats 4000000 in
set_option maxRecDepth 100000 in
theorem cl_X0_filesThatAre_L4 {X : gX} {Z : gZ} {ad : Nat → Nat} {d : Nat → Nat → Int32} {r : Int32} (C : GC X Z cX0_filesThatAre 4 wsX0_filesThatAre RX0 rm_X0_filesThatAre 21 ad) (e : gEI X Z 21 ad .int r (dskE Z.2.1 ad d)) (v1 : Int32) : ∀ (fu : Nat) (v2 : Int32) (v3 : Int32) (h : f_X0_filesThatAre_L4 d v1 fu v2 v3 = some r), GG X Z 4 21 ad (dskE Z.2.1 ad d) 4 [(0, .ref (ad 0)), (1, .int v1), (2, .int v2), (3, .int v3)] [] := by
  intro fu
  induction fu with
  | zero => intro v2 v3 h; cases h
  | succ fu ih =>
    intro v2 v3 h
    rw [f_X0_filesThatAre_L4] at h
    refine g_iload_n C dX0_filesThatAre_4 3 rfl ?_
    refine g_bipush (v := 8) C dX0_filesThatAre_5 (by decide) ?_
    refine g_icmp_ge (tgt := 31) C dX0_filesThatAre_7 (by decide) (fun c1 => ?_) (fun c1 => ?_)
    · replace h := gi_pos c1 h
      refine g_iload_n C dX0_filesThatAre_31 2 rfl ?_
      obtain rfl := gs1 h
      exact g_iret C e dX0_filesThatAre_32
    · replace h := gi_neg c1 h
      refine g_aload_n C dX0_filesThatAre_10 0 rfl ?_
      refine g_getf (v := .ref (ad 7)) C 0 (by decide) rfl rfl in_X0_filesThatAre 3 (by decide) fl_X0_filesThatAre_26 rfl dX0_filesThatAre_11 ?_
      refine g_iload_n C dX0_filesThatAre_14 3 rfl ?_
      refine g_iload_n C dX0_filesThatAre_15 1 rfl ?_
      obtain ⟨r2, er2, h⟩ := gb1 h
      refine g_callVi (rest := []) C gX0_filesThatAre_X3_holds rfl ok_X3_holds ⟨by decide, by decide⟩ ⟨rfl, rfl⟩ 7 2 (by decide) (adc := fun i => ad (7 + i)) (fun _ _ => rfl) (dskE_row 3 (by decide)) 0 (by decide) rfl rfl (fun hI => cn_X3_holds X.2.1 Z (fun i => ad (7 + i)) hI 8 (d 3) v3 v1 er2) rfl dX0_filesThatAre_16 rfl (Nat.le_of_ble_eq_true rfl) (dskE Z.2.1 ad d) (dskE_id 3 (by decide)) ?_
      refine g_if_eq (tgt := 25) C dX0_filesThatAre_19 (by decide) (fun c3 => ?_) (fun c3 => ?_)
      · replace h := gi_pos c3 h
        obtain ⟨x4, ex4, h⟩ := gl h
        refine g_iinc (v := x4) C dX0_filesThatAre_25 3 rfl (by rw [ex4]; rfl) (by decide) [(3, .int x4), (0, .ref (ad 0)), (1, .int v1), (2, .int v2)] rfl ?_
        refine g_goto (tgt := 4) C dX0_filesThatAre_28 (by decide) ?_
        exact g_sub [1, 2, 3, 0] rfl (ih v2 x4 h)
      · replace h := gi_neg c3 h
        obtain ⟨x5, ex5, h⟩ := gl h
        refine g_iinc (v := x5) C dX0_filesThatAre_22 2 rfl (by rw [ex5]; rfl) (by decide) [(2, .int x5), (0, .ref (ad 0)), (1, .int v1), (3, .int v3)] rfl ?_
        obtain ⟨x6, ex6, h⟩ := gl h
        refine g_iinc (v := x6) C dX0_filesThatAre_25 3 rfl (by rw [ex6]; rfl) (by decide) [(3, .int x6), (2, .int x5), (0, .ref (ad 0)), (1, .int v1)] rfl ?_
        refine g_goto (tgt := 4) C dX0_filesThatAre_28 (by decide) ?_
        exact g_sub [2, 3, 1, 0] rfl (ih x5 x6 h)
set_option maxHeartbeats 4000000 in
set_option maxRecDepth 100000 in
theorem cn_X0_filesThatAre (l : Launch) (Z : gZ) (ad : Nat → Nat) (hI : gInj 21 ad) (d : Nat → Nat → Int32) (v1 : Int32) {r : Int32} (h : f_X0_filesThatAre d v1 = some r) : gI l yX0_filesThatAre wsX0_filesThatAre rm_X0_filesThatAre Z 21 ad [.ref (ad 0), .int v1] (dskE Z.2.1 ad d) r (dskE Z.2.1 ad d) := by
  refine g_entryI (cc := cX0_filesThatAre) (maxL := 4) (by decide +kernel) rfl hI (Nat.le_of_ble_eq_true rfl) (fun X C e => ?_)
  unfold f_X0_filesThatAre at h
  show GG X Z 4 21 ad (dskE Z.2.1 ad d) 0 [(0, .ref (ad 0)), (1, .int v1)] []
  refine g_iconst (v := 0) C dX0_filesThatAre_0 (by decide) ?_
  refine g_istore_n C dX0_filesThatAre_1 (by decide) [(2, .int 0), (0, .ref (ad 0)), (1, .int v1)] rfl ?_
  refine g_iconst (v := 0) C dX0_filesThatAre_2 (by decide) ?_
  refine g_istore_n C dX0_filesThatAre_3 (by decide) [(3, .int 0), (2, .int 0), (0, .ref (ad 0)), (1, .int v1)] rfl ?_
  exact g_sub [2, 3, 1, 0] rfl (cl_X0_filesThatAre_L4 C e v1 gFu 0 0 h)
abbrev rm_X0_openFile : Room := ({ frames := 2, cells := 0, slots := 0, locals := 45 } : Room)
def f_X0_openFile (d : Nat → Nat → Int32) (v1 : Int32) : Option (Int32 × (Nat → Nat → Int32)) := gb (f_X0_isFile d v1) (fun r1 => if r1 = 0 then some ((-1), d) else gb (f_X0_isOpen d v1) (fun r3 => if r3 = 0 then gb (f_X3_put 8 (d 3) v1 2) (fun w5 => glet (va_up d 3 w5) (fun d6 => gb (f_X0_filesThatAre d6 2) (fun r7 => some (r7, d6)))) else some ((-4), d)))
set_option maxRecDepth 20000 in
theorem in_X0_openFile : ∀ w ∈ wsX00, w ∈ wsX0_openFile := by decide +kernel
set_option maxRecDepth 20000 in
theorem fl_X0_openFile_26 : Cond.fieldLink RX0 26 (TX0 3).1 (TX0 3).2.1 (TX0 3).2.2.1 ∈ wsX0_openFile := by decide +kernel
set_option maxHeartbeats 4000000 in
set_option maxRecDepth 100000 in
theorem cn_X0_openFile (l : Launch) (Z : gZ) (ad : Nat → Nat) (hI : gInj 21 ad) (d : Nat → Nat → Int32) (v1 : Int32) {r : Int32} {d' : Nat → Nat → Int32} (h : f_X0_openFile d v1 = some (r, d')) : gI l yX0_openFile wsX0_openFile rm_X0_openFile Z 21 ad [.ref (ad 0), .int v1] (dskE Z.2.1 ad d) r (dskE Z.2.1 ad d') := by
  refine g_entryI (cc := cX0_openFile) (maxL := 2) (by decide +kernel) rfl hI (Nat.le_of_ble_eq_true rfl) (fun X C e => ?_)
  unfold f_X0_openFile at h
  show GG X Z 2 21 ad (dskE Z.2.1 ad d) 0 [(0, .ref (ad 0)), (1, .int v1)] []
  refine g_aload_n C dX0_openFile_0 0 rfl ?_
  refine g_iload_n C dX0_openFile_1 1 rfl ?_
  obtain ⟨r1, er1, h⟩ := gb1 h
  refine g_callWi (rest := []) C gX0_openFile_X0_isFile rfl ok_X0_isFile ⟨by decide, by decide⟩ ⟨rfl, rfl⟩ 0 (by decide) rfl rfl (fun hI => cn_X0_isFile X.2.1 Z ad hI d v1 er1) rfl dX0_openFile_2 rfl (Nat.le_of_ble_eq_true rfl) ?_
  refine g_if_ne (tgt := 10) C dX0_openFile_5 (by decide) (fun c2 => ?_) (fun c2 => ?_)
  · replace h := gi_neg c2 h
    refine g_aload_n C dX0_openFile_10 0 rfl ?_
    refine g_iload_n C dX0_openFile_11 1 rfl ?_
    obtain ⟨r3, er3, h⟩ := gb1 h
    refine g_callWi (rest := []) C gX0_openFile_X0_isOpen rfl ok_X0_isOpen ⟨by decide, by decide⟩ ⟨rfl, rfl⟩ 0 (by decide) rfl rfl (fun hI => cn_X0_isOpen X.2.1 Z ad hI d v1 er3) rfl dX0_openFile_12 rfl (Nat.le_of_ble_eq_true rfl) ?_
    refine g_if_eq (tgt := 21) C dX0_openFile_15 (by decide) (fun c4 => ?_) (fun c4 => ?_)
    · replace h := gi_pos c4 h
      refine g_aload_n C dX0_openFile_21 0 rfl ?_
      refine g_getf (v := .ref (ad 7)) C 0 (by decide) rfl rfl in_X0_openFile 3 (by decide) fl_X0_openFile_26 rfl dX0_openFile_22 ?_
      refine g_iload_n C dX0_openFile_25 1 rfl ?_
      refine g_iconst (v := 2) C dX0_openFile_26 (by decide) ?_
      obtain ⟨w5, ew5, h⟩ := gb1 h
      obtain ⟨d6, ed6, h⟩ := gl h
      refine g_callVv (rest := []) C gX0_openFile_X3_put rfl ok_X3_put ⟨by decide, by decide⟩ ⟨rfl, rfl⟩ 7 2 (by decide) (adc := fun i => ad (7 + i)) (fun _ _ => rfl) (dskE_row 3 (by decide)) 0 (by decide) rfl rfl (fun hI => cn_X3_put X.2.1 Z (fun i => ad (7 + i)) hI 8 (d 3) v1 2 ew5) rfl dX0_openFile_27 rfl (Nat.le_of_ble_eq_true rfl) (dskE Z.2.1 ad d6) (by rw [ed6]; exact (dskE_up 3 (by decide))) ?_
      refine g_aload_n C dX0_openFile_30 0 rfl ?_
      refine g_iconst (v := 2) C dX0_openFile_31 (by decide) ?_
      obtain ⟨r7, er7, h⟩ := gb1 h
      refine g_callWi (rest := []) C gX0_openFile_X0_filesThatAre rfl ok_X0_filesThatAre ⟨by decide, by decide⟩ ⟨rfl, rfl⟩ 0 (by decide) rfl rfl (fun hI => cn_X0_filesThatAre X.2.1 Z ad hI d6 2 er7) rfl dX0_openFile_32 rfl (Nat.le_of_ble_eq_true rfl) ?_
      obtain ⟨rfl, rfl⟩ := gs2 h
      exact g_iret C e dX0_openFile_35
    · replace h := gi_neg c4 h
      refine g_bipush (v := (-4)) C dX0_openFile_18 (by decide) ?_
      obtain ⟨rfl, rfl⟩ := gs2 h
      exact g_iret C e dX0_openFile_20
  · replace h := gi_pos c2 h
    refine g_iconst (v := (-1)) C dX0_openFile_8 (by decide) ?_
    obtain ⟨rfl, rfl⟩ := gs2 h
    exact g_iret C e dX0_openFile_9
abbrev rm_X0_lentOf : Room := ({ frames := 1, cells := 0, slots := 0, locals := 21 } : Room)
def f_X0_lentOf (d : Nat → Nat → Int32) (v1 : Int32) : Option Int32 := gb (f_X3_at 8 (d 4) v1) (fun r1 => gb (f_X3_at 8 (d 5) v1) (fun r2 => some (r1 - r2)))
set_option maxRecDepth 20000 in
theorem in_X0_lentOf : ∀ w ∈ wsX00, w ∈ wsX0_lentOf := by decide +kernel
set_option maxRecDepth 20000 in
theorem fl_X0_lentOf_32 : Cond.fieldLink RX0 32 (TX0 5).1 (TX0 5).2.1 (TX0 5).2.2.1 ∈ wsX0_lentOf := by decide +kernel
set_option maxRecDepth 20000 in
theorem fl_X0_lentOf_29 : Cond.fieldLink RX0 29 (TX0 4).1 (TX0 4).2.1 (TX0 4).2.2.1 ∈ wsX0_lentOf := by decide +kernel
set_option maxHeartbeats 4000000 in
set_option maxRecDepth 100000 in
theorem cn_X0_lentOf (l : Launch) (Z : gZ) (ad : Nat → Nat) (hI : gInj 21 ad) (d : Nat → Nat → Int32) (v1 : Int32) {r : Int32} (h : f_X0_lentOf d v1 = some r) : gI l yX0_lentOf wsX0_lentOf rm_X0_lentOf Z 21 ad [.ref (ad 0), .int v1] (dskE Z.2.1 ad d) r (dskE Z.2.1 ad d) := by
  refine g_entryI (cc := cX0_lentOf) (maxL := 2) (by decide +kernel) rfl hI (Nat.le_of_ble_eq_true rfl) (fun X C e => ?_)
  unfold f_X0_lentOf at h
  show GG X Z 2 21 ad (dskE Z.2.1 ad d) 0 [(0, .ref (ad 0)), (1, .int v1)] []
  refine g_aload_n C dX0_lentOf_0 0 rfl ?_
  refine g_getf (v := .ref (ad 9)) C 0 (by decide) rfl rfl in_X0_lentOf 4 (by decide) fl_X0_lentOf_29 rfl dX0_lentOf_1 ?_
  refine g_iload_n C dX0_lentOf_4 1 rfl ?_
  obtain ⟨r1, er1, h⟩ := gb1 h
  refine g_callVi (rest := []) C gX0_lentOf_X3_at rfl ok_X3_at ⟨by decide, by decide⟩ ⟨rfl, rfl⟩ 9 2 (by decide) (adc := fun i => ad (9 + i)) (fun _ _ => rfl) (dskE_row 4 (by decide)) 0 (by decide) rfl rfl (fun hI => cn_X3_at X.2.1 Z (fun i => ad (9 + i)) hI 8 (d 4) v1 er1) rfl dX0_lentOf_5 rfl (Nat.le_of_ble_eq_true rfl) (dskE Z.2.1 ad d) (dskE_id 4 (by decide)) ?_
  refine g_aload_n C dX0_lentOf_8 0 rfl ?_
  refine g_getf (v := .ref (ad 11)) C 0 (by decide) rfl rfl in_X0_lentOf 5 (by decide) fl_X0_lentOf_32 rfl dX0_lentOf_9 ?_
  refine g_iload_n C dX0_lentOf_12 1 rfl ?_
  obtain ⟨r2, er2, h⟩ := gb1 h
  refine g_callVi (rest := [.int r1]) C gX0_lentOf_X3_at rfl ok_X3_at ⟨by decide, by decide⟩ ⟨rfl, rfl⟩ 11 2 (by decide) (adc := fun i => ad (11 + i)) (fun _ _ => rfl) (dskE_row 5 (by decide)) 0 (by decide) rfl rfl (fun hI => cn_X3_at X.2.1 Z (fun i => ad (11 + i)) hI 8 (d 5) v1 er2) rfl dX0_lentOf_13 rfl (Nat.le_of_ble_eq_true rfl) (dskE Z.2.1 ad d) (dskE_id 5 (by decide)) ?_
  refine g_isub C dX0_lentOf_16 ?_
  obtain rfl := gs1 h
  exact g_iret C e dX0_lentOf_17
abbrev rm_X0_freeFrom : Room := ({ frames := 1, cells := 0, slots := 0, locals := 22 } : Room)
def f_X0_freeFrom_L2 (v1 : Int32) (v2 : Int32) : Nat → Int32 → (Nat → Nat → Int32) → Option ((Nat → Nat → Int32))
  | 0, _, _ => none
  | fu + 1, v3, d => if 64 ≤ v3 then gb (f_X3_put 8 (d 4) v1 v2) (fun w2 => glet (va_up d 4 w2) (fun d3 => some d3)) else gb (f_X3_holds 64 (d 1) v3 v1) (fun r4 => if r4 = 0 then glet (v3 + 1) (fun x6 => f_X0_freeFrom_L2 v1 v2 fu x6 d) else gb (f_X3_at 64 (d 2) v3) (fun r7 => if r7 < v2 then glet (v3 + 1) (fun x9 => f_X0_freeFrom_L2 v1 v2 fu x9 d) else gb (f_X3_put 64 (d 1) v3 (-5)) (fun w10 => glet (va_up d 1 w10) (fun d11 => gb (f_X3_put 64 (d11 2) v3 (-5)) (fun w12 => glet (va_up d11 2 w12) (fun d13 => glet (v3 + 1) (fun x14 => f_X0_freeFrom_L2 v1 v2 fu x14 d13)))))))
def f_X0_freeFrom (d : Nat → Nat → Int32) (v1 : Int32) (v2 : Int32) : Option ((Nat → Nat → Int32)) := f_X0_freeFrom_L2 v1 v2 gFu 0 d
set_option maxRecDepth 20000 in
theorem in_X0_freeFrom : ∀ w ∈ wsX00, w ∈ wsX0_freeFrom := by decide +kernel
set_option maxRecDepth 20000 in
theorem fl_X0_freeFrom_29 : Cond.fieldLink RX0 29 (TX0 4).1 (TX0 4).2.1 (TX0 4).2.2.1 ∈ wsX0_freeFrom := by decide +kernel
set_option maxRecDepth 20000 in
theorem fl_X0_freeFrom_23 : Cond.fieldLink RX0 23 (TX0 2).1 (TX0 2).2.1 (TX0 2).2.2.1 ∈ wsX0_freeFrom := by decide +kernel
set_option maxRecDepth 20000 in
theorem fl_X0_freeFrom_20 : Cond.fieldLink RX0 20 (TX0 1).1 (TX0 1).2.1 (TX0 1).2.2.1 ∈ wsX0_freeFrom := by decide +kernel
set_option maxHeartbeats 4000000 in
set_option maxRecDepth 100000 in
theorem cl_X0_freeFrom_L2 {X : gX} {Z : gZ} {ad : Nat → Nat}  {d' : Nat → Nat → Int32} (C : GC X Z cX0_freeFrom 4 wsX0_freeFrom RX0 rm_X0_freeFrom 21 ad) (e : gEV X Z 21 ad (dskE Z.2.1 ad d')) (v1 : Int32) (v2 : Int32) : ∀ (fu : Nat) (v3 : Int32) (d : Nat → Nat → Int32) (h : f_X0_freeFrom_L2 v1 v2 fu v3 d = some d'), GG X Z 4 21 ad (dskE Z.2.1 ad d) 2 [(0, .ref (ad 0)), (1, .int v1), (2, .int v2), (3, .int v3)] [] := by
  intro fu
  induction fu with
  | zero => intro v3 d h; cases h
  | succ fu ih =>
    intro v3 d h
    rw [f_X0_freeFrom_L2] at h
    refine g_iload_n C dX0_freeFrom_2 3 rfl ?_
    refine g_bipush (v := 64) C dX0_freeFrom_3 (by decide) ?_
    refine g_icmp_ge (tgt := 58) C dX0_freeFrom_5 (by decide) (fun c1 => ?_) (fun c1 => ?_)
    · replace h := gi_pos c1 h
      refine g_aload_n C dX0_freeFrom_58 0 rfl ?_
      refine g_getf (v := .ref (ad 9)) C 0 (by decide) rfl rfl in_X0_freeFrom 4 (by decide) fl_X0_freeFrom_29 rfl dX0_freeFrom_59 ?_
      refine g_iload_n C dX0_freeFrom_62 1 rfl ?_
      refine g_iload_n C dX0_freeFrom_63 2 rfl ?_
      obtain ⟨w2, ew2, h⟩ := gb1 h
      obtain ⟨d3, ed3, h⟩ := gl h
      refine g_callVv (rest := []) C gX0_freeFrom_X3_put rfl ok_X3_put ⟨by decide, by decide⟩ ⟨rfl, rfl⟩ 9 2 (by decide) (adc := fun i => ad (9 + i)) (fun _ _ => rfl) (dskE_row 4 (by decide)) 0 (by decide) rfl rfl (fun hI => cn_X3_put X.2.1 Z (fun i => ad (9 + i)) hI 8 (d 4) v1 v2 ew2) rfl dX0_freeFrom_64 rfl (Nat.le_of_ble_eq_true rfl) (dskE Z.2.1 ad d3) (by rw [ed3]; exact (dskE_up 4 (by decide))) ?_
      obtain rfl := gs1 h
      exact g_vret C e dX0_freeFrom_67
    · replace h := gi_neg c1 h
      refine g_aload_n C dX0_freeFrom_8 0 rfl ?_
      refine g_getf (v := .ref (ad 3)) C 0 (by decide) rfl rfl in_X0_freeFrom 1 (by decide) fl_X0_freeFrom_20 rfl dX0_freeFrom_9 ?_
      refine g_iload_n C dX0_freeFrom_12 3 rfl ?_
      refine g_iload_n C dX0_freeFrom_13 1 rfl ?_
      obtain ⟨r4, er4, h⟩ := gb1 h
      refine g_callVi (rest := []) C gX0_freeFrom_X3_holds rfl ok_X3_holds ⟨by decide, by decide⟩ ⟨rfl, rfl⟩ 3 2 (by decide) (adc := fun i => ad (3 + i)) (fun _ _ => rfl) (dskE_row 1 (by decide)) 0 (by decide) rfl rfl (fun hI => cn_X3_holds X.2.1 Z (fun i => ad (3 + i)) hI 64 (d 1) v3 v1 er4) rfl dX0_freeFrom_14 rfl (Nat.le_of_ble_eq_true rfl) (dskE Z.2.1 ad d) (dskE_id 1 (by decide)) ?_
      refine g_if_eq (tgt := 52) C dX0_freeFrom_17 (by decide) (fun c5 => ?_) (fun c5 => ?_)
      · replace h := gi_pos c5 h
        obtain ⟨x6, ex6, h⟩ := gl h
        refine g_iinc (v := x6) C dX0_freeFrom_52 3 rfl (by rw [ex6]; rfl) (by decide) [(3, .int x6), (0, .ref (ad 0)), (1, .int v1), (2, .int v2)] rfl ?_
        refine g_goto (tgt := 2) C dX0_freeFrom_55 (by decide) ?_
        exact g_sub [1, 2, 3, 0] rfl (ih x6 d h)
      · replace h := gi_neg c5 h
        refine g_aload_n C dX0_freeFrom_20 0 rfl ?_
        refine g_getf (v := .ref (ad 5)) C 0 (by decide) rfl rfl in_X0_freeFrom 2 (by decide) fl_X0_freeFrom_23 rfl dX0_freeFrom_21 ?_
        refine g_iload_n C dX0_freeFrom_24 3 rfl ?_
        obtain ⟨r7, er7, h⟩ := gb1 h
        refine g_callVi (rest := []) C gX0_freeFrom_X3_at rfl ok_X3_at ⟨by decide, by decide⟩ ⟨rfl, rfl⟩ 5 2 (by decide) (adc := fun i => ad (5 + i)) (fun _ _ => rfl) (dskE_row 2 (by decide)) 0 (by decide) rfl rfl (fun hI => cn_X3_at X.2.1 Z (fun i => ad (5 + i)) hI 64 (d 2) v3 er7) rfl dX0_freeFrom_25 rfl (Nat.le_of_ble_eq_true rfl) (dskE Z.2.1 ad d) (dskE_id 2 (by decide)) ?_
        refine g_iload_n C dX0_freeFrom_28 2 rfl ?_
        refine g_icmp_lt (tgt := 52) C dX0_freeFrom_29 (by decide) (fun c8 => ?_) (fun c8 => ?_)
        · replace h := gi_pos c8 h
          obtain ⟨x9, ex9, h⟩ := gl h
          refine g_iinc (v := x9) C dX0_freeFrom_52 3 rfl (by rw [ex9]; rfl) (by decide) [(3, .int x9), (0, .ref (ad 0)), (1, .int v1), (2, .int v2)] rfl ?_
          refine g_goto (tgt := 2) C dX0_freeFrom_55 (by decide) ?_
          exact g_sub [1, 2, 3, 0] rfl (ih x9 d h)
        · replace h := gi_neg c8 h
          refine g_aload_n C dX0_freeFrom_32 0 rfl ?_
          refine g_getf (v := .ref (ad 3)) C 0 (by decide) rfl rfl in_X0_freeFrom 1 (by decide) fl_X0_freeFrom_20 rfl dX0_freeFrom_33 ?_
          refine g_iload_n C dX0_freeFrom_36 3 rfl ?_
          refine g_bipush (v := (-5)) C dX0_freeFrom_37 (by decide) ?_
          obtain ⟨w10, ew10, h⟩ := gb1 h
          obtain ⟨d11, ed11, h⟩ := gl h
          refine g_callVv (rest := []) C gX0_freeFrom_X3_put rfl ok_X3_put ⟨by decide, by decide⟩ ⟨rfl, rfl⟩ 3 2 (by decide) (adc := fun i => ad (3 + i)) (fun _ _ => rfl) (dskE_row 1 (by decide)) 0 (by decide) rfl rfl (fun hI => cn_X3_put X.2.1 Z (fun i => ad (3 + i)) hI 64 (d 1) v3 (-5) ew10) rfl dX0_freeFrom_39 rfl (Nat.le_of_ble_eq_true rfl) (dskE Z.2.1 ad d11) (by rw [ed11]; exact (dskE_up 1 (by decide))) ?_
          refine g_aload_n C dX0_freeFrom_42 0 rfl ?_
          refine g_getf (v := .ref (ad 5)) C 0 (by decide) rfl rfl in_X0_freeFrom 2 (by decide) fl_X0_freeFrom_23 rfl dX0_freeFrom_43 ?_
          refine g_iload_n C dX0_freeFrom_46 3 rfl ?_
          refine g_bipush (v := (-5)) C dX0_freeFrom_47 (by decide) ?_
          obtain ⟨w12, ew12, h⟩ := gb1 h
          obtain ⟨d13, ed13, h⟩ := gl h
          refine g_callVv (rest := []) C gX0_freeFrom_X3_put rfl ok_X3_put ⟨by decide, by decide⟩ ⟨rfl, rfl⟩ 5 2 (by decide) (adc := fun i => ad (5 + i)) (fun _ _ => rfl) (dskE_row 2 (by decide)) 0 (by decide) rfl rfl (fun hI => cn_X3_put X.2.1 Z (fun i => ad (5 + i)) hI 64 (d11 2) v3 (-5) ew12) rfl dX0_freeFrom_49 rfl (Nat.le_of_ble_eq_true rfl) (dskE Z.2.1 ad d13) (by rw [ed13]; exact (dskE_up 2 (by decide))) ?_
          obtain ⟨x14, ex14, h⟩ := gl h
          refine g_iinc (v := x14) C dX0_freeFrom_52 3 rfl (by rw [ex14]; rfl) (by decide) [(3, .int x14), (0, .ref (ad 0)), (1, .int v1), (2, .int v2)] rfl ?_
          refine g_goto (tgt := 2) C dX0_freeFrom_55 (by decide) ?_
          exact g_sub [1, 2, 3, 0] rfl (ih x14 d13 h)
set_option maxHeartbeats 4000000 in
set_option maxRecDepth 100000 in
theorem cn_X0_freeFrom (l : Launch) (Z : gZ) (ad : Nat → Nat) (hI : gInj 21 ad) (d : Nat → Nat → Int32) (v1 : Int32) (v2 : Int32) {d' : Nat → Nat → Int32} (h : f_X0_freeFrom d v1 v2 = some d') : gV l yX0_freeFrom wsX0_freeFrom rm_X0_freeFrom Z 21 ad [.ref (ad 0), .int v1, .int v2] (dskE Z.2.1 ad d) (dskE Z.2.1 ad d') := by
  refine g_entryV (cc := cX0_freeFrom) (maxL := 4) (by decide +kernel) rfl hI (Nat.le_of_ble_eq_true rfl) (fun X C e => ?_)
  unfold f_X0_freeFrom at h
  show GG X Z 4 21 ad (dskE Z.2.1 ad d) 0 [(0, .ref (ad 0)), (1, .int v1), (2, .int v2)] []
  refine g_iconst (v := 0) C dX0_freeFrom_0 (by decide) ?_
  refine g_istore_n C dX0_freeFrom_1 (by decide) [(3, .int 0), (0, .ref (ad 0)), (1, .int v1), (2, .int v2)] rfl ?_
  exact g_sub [1, 2, 3, 0] rfl (cl_X0_freeFrom_L2 C e v1 v2 gFu 0 d h)
abbrev rm_X0_giveBack : Room := ({ frames := 2, cells := 0, slots := 0, locals := 45 } : Room)
def f_X0_giveBack (d : Nat → Nat → Int32) (v1 : Int32) : Option (Int32 × (Nat → Nat → Int32)) := gb (f_X0_lentOf d v1) (fun r1 => gb (f_X3_at 8 (d 5) v1) (fun r2 => gb (f_X0_freeFrom d v1 r2) (fun d3 => gb (f_X3_put 8 (d3 7) v1 1) (fun w4 => glet (va_up d3 7 w4) (fun d5 => gb (f_X3_grow 4 (d5 9) 1 r1) (fun w6 => glet (va_up d5 9 w6) (fun d7 => some (r1, d7))))))))
set_option maxRecDepth 20000 in
theorem in_X0_giveBack : ∀ w ∈ wsX00, w ∈ wsX0_giveBack := by decide +kernel
set_option maxRecDepth 20000 in
theorem fl_X0_giveBack_44 : Cond.fieldLink RX0 44 (TX0 9).1 (TX0 9).2.1 (TX0 9).2.2.1 ∈ wsX0_giveBack := by decide +kernel
set_option maxRecDepth 20000 in
theorem fl_X0_giveBack_38 : Cond.fieldLink RX0 38 (TX0 7).1 (TX0 7).2.1 (TX0 7).2.2.1 ∈ wsX0_giveBack := by decide +kernel
set_option maxRecDepth 20000 in
theorem fl_X0_giveBack_32 : Cond.fieldLink RX0 32 (TX0 5).1 (TX0 5).2.1 (TX0 5).2.2.1 ∈ wsX0_giveBack := by decide +kernel
set_option maxHeartbeats 4000000 in
set_option maxRecDepth 100000 in
theorem cn_X0_giveBack (l : Launch) (Z : gZ) (ad : Nat → Nat) (hI : gInj 21 ad) (d : Nat → Nat → Int32) (v1 : Int32) {r : Int32} {d' : Nat → Nat → Int32} (h : f_X0_giveBack d v1 = some (r, d')) : gI l yX0_giveBack wsX0_giveBack rm_X0_giveBack Z 21 ad [.ref (ad 0), .int v1] (dskE Z.2.1 ad d) r (dskE Z.2.1 ad d') := by
  refine g_entryI (cc := cX0_giveBack) (maxL := 3) (by decide +kernel) rfl hI (Nat.le_of_ble_eq_true rfl) (fun X C e => ?_)
  unfold f_X0_giveBack at h
  show GG X Z 3 21 ad (dskE Z.2.1 ad d) 0 [(0, .ref (ad 0)), (1, .int v1)] []
  refine g_aload_n C dX0_giveBack_0 0 rfl ?_
  refine g_iload_n C dX0_giveBack_1 1 rfl ?_
  obtain ⟨r1, er1, h⟩ := gb1 h
  refine g_callWi (rest := []) C gX0_giveBack_X0_lentOf rfl ok_X0_lentOf ⟨by decide, by decide⟩ ⟨rfl, rfl⟩ 0 (by decide) rfl rfl (fun hI => cn_X0_lentOf X.2.1 Z ad hI d v1 er1) rfl dX0_giveBack_2 rfl (Nat.le_of_ble_eq_true rfl) ?_
  refine g_istore_n C dX0_giveBack_5 (by decide) [(2, .int r1), (0, .ref (ad 0)), (1, .int v1)] rfl ?_
  refine g_aload_n C dX0_giveBack_6 1 rfl ?_
  refine g_iload_n C dX0_giveBack_7 2 rfl ?_
  refine g_aload_n C dX0_giveBack_8 1 rfl ?_
  refine g_getf (v := .ref (ad 11)) C 0 (by decide) rfl rfl in_X0_giveBack 5 (by decide) fl_X0_giveBack_32 rfl dX0_giveBack_9 ?_
  refine g_iload_n C dX0_giveBack_12 2 rfl ?_
  obtain ⟨r2, er2, h⟩ := gb1 h
  refine g_callVi (rest := [.int v1, .ref (ad 0)]) C gX0_giveBack_X3_at rfl ok_X3_at ⟨by decide, by decide⟩ ⟨rfl, rfl⟩ 11 2 (by decide) (adc := fun i => ad (11 + i)) (fun _ _ => rfl) (dskE_row 5 (by decide)) 0 (by decide) rfl rfl (fun hI => cn_X3_at X.2.1 Z (fun i => ad (11 + i)) hI 8 (d 5) v1 er2) rfl dX0_giveBack_13 rfl (Nat.le_of_ble_eq_true rfl) (dskE Z.2.1 ad d) (dskE_id 5 (by decide)) ?_
  obtain ⟨d3, ed3, h⟩ := gb1 h
  refine g_callWv (rest := []) C gX0_giveBack_X0_freeFrom rfl ok_X0_freeFrom ⟨by decide, by decide⟩ ⟨rfl, rfl⟩ 0 (by decide) rfl rfl (fun hI => cn_X0_freeFrom X.2.1 Z ad hI d v1 r2 ed3) rfl dX0_giveBack_16 rfl (Nat.le_of_ble_eq_true rfl) ?_
  refine g_aload_n C dX0_giveBack_19 1 rfl ?_
  refine g_getf (v := .ref (ad 15)) C 0 (by decide) rfl rfl in_X0_giveBack 7 (by decide) fl_X0_giveBack_38 rfl dX0_giveBack_20 ?_
  refine g_iload_n C dX0_giveBack_23 2 rfl ?_
  refine g_iconst (v := 1) C dX0_giveBack_24 (by decide) ?_
  obtain ⟨w4, ew4, h⟩ := gb1 h
  obtain ⟨d5, ed5, h⟩ := gl h
  refine g_callVv (rest := []) C gX0_giveBack_X3_put rfl ok_X3_put ⟨by decide, by decide⟩ ⟨rfl, rfl⟩ 15 2 (by decide) (adc := fun i => ad (15 + i)) (fun _ _ => rfl) (dskE_row 7 (by decide)) 0 (by decide) rfl rfl (fun hI => cn_X3_put X.2.1 Z (fun i => ad (15 + i)) hI 8 (d3 7) v1 1 ew4) rfl dX0_giveBack_25 rfl (Nat.le_of_ble_eq_true rfl) (dskE Z.2.1 ad d5) (by rw [ed5]; exact (dskE_up 7 (by decide))) ?_
  refine g_aload_n C dX0_giveBack_28 1 rfl ?_
  refine g_getf (v := .ref (ad 19)) C 0 (by decide) rfl rfl in_X0_giveBack 9 (by decide) fl_X0_giveBack_44 rfl dX0_giveBack_29 ?_
  refine g_iconst (v := 1) C dX0_giveBack_32 (by decide) ?_
  refine g_iload_n C dX0_giveBack_33 0 rfl ?_
  obtain ⟨w6, ew6, h⟩ := gb1 h
  obtain ⟨d7, ed7, h⟩ := gl h
  refine g_callVv (rest := []) C gX0_giveBack_X3_grow rfl ok_X3_grow ⟨by decide, by decide⟩ ⟨rfl, rfl⟩ 19 2 (by decide) (adc := fun i => ad (19 + i)) (fun _ _ => rfl) (dskE_row 9 (by decide)) 0 (by decide) rfl rfl (fun hI => cn_X3_grow X.2.1 Z (fun i => ad (19 + i)) hI 4 (d5 9) 1 r1 ew6) rfl dX0_giveBack_34 rfl (Nat.le_of_ble_eq_true rfl) (dskE Z.2.1 ad d7) (by rw [ed7]; exact (dskE_up 9 (by decide))) ?_
  refine g_iload_n C dX0_giveBack_37 0 rfl ?_
  obtain ⟨rfl, rfl⟩ := gs2 h
  exact g_iret C e dX0_giveBack_38
abbrev rm_X0_closeFile : Room := ({ frames := 3, cells := 0, slots := 0, locals := 67 } : Room)
def f_X0_closeFile (d : Nat → Nat → Int32) (v1 : Int32) : Option (Int32 × (Nat → Nat → Int32)) := gb (f_X0_isFile d v1) (fun r1 => if r1 = 0 then some ((-1), d) else gb (f_X0_isOpen d v1) (fun r3 => if r3 = 0 then some ((-4), d) else gbb2 (f_X0_giveBack d v1) (fun r5 d6 => gb (f_X3_at 8 (d6 5) v1) (fun r7 => gb (f_X3_put 8 (d6 6) v1 r7) (fun w8 => glet (va_up d6 6 w8) (fun d9 => gb (f_X3_put 8 (d9 3) v1 1) (fun w10 => glet (va_up d9 3 w10) (fun d11 => some (r5, d11)))))))))
set_option maxRecDepth 20000 in
theorem in_X0_closeFile : ∀ w ∈ wsX00, w ∈ wsX0_closeFile := by decide +kernel
set_option maxRecDepth 20000 in
theorem fl_X0_closeFile_26 : Cond.fieldLink RX0 26 (TX0 3).1 (TX0 3).2.1 (TX0 3).2.2.1 ∈ wsX0_closeFile := by decide +kernel
set_option maxRecDepth 20000 in
theorem fl_X0_closeFile_32 : Cond.fieldLink RX0 32 (TX0 5).1 (TX0 5).2.1 (TX0 5).2.2.1 ∈ wsX0_closeFile := by decide +kernel
set_option maxRecDepth 20000 in
theorem fl_X0_closeFile_35 : Cond.fieldLink RX0 35 (TX0 6).1 (TX0 6).2.1 (TX0 6).2.2.1 ∈ wsX0_closeFile := by decide +kernel
set_option maxHeartbeats 4000000 in
set_option maxRecDepth 100000 in
theorem cn_X0_closeFile (l : Launch) (Z : gZ) (ad : Nat → Nat) (hI : gInj 21 ad) (d : Nat → Nat → Int32) (v1 : Int32) {r : Int32} {d' : Nat → Nat → Int32} (h : f_X0_closeFile d v1 = some (r, d')) : gI l yX0_closeFile wsX0_closeFile rm_X0_closeFile Z 21 ad [.ref (ad 0), .int v1] (dskE Z.2.1 ad d) r (dskE Z.2.1 ad d') := by
  refine g_entryI (cc := cX0_closeFile) (maxL := 3) (by decide +kernel) rfl hI (Nat.le_of_ble_eq_true rfl) (fun X C e => ?_)
  unfold f_X0_closeFile at h
  show GG X Z 3 21 ad (dskE Z.2.1 ad d) 0 [(0, .ref (ad 0)), (1, .int v1)] []
  refine g_aload_n C dX0_closeFile_0 0 rfl ?_
  refine g_iload_n C dX0_closeFile_1 1 rfl ?_
  obtain ⟨r1, er1, h⟩ := gb1 h
  refine g_callWi (rest := []) C gX0_closeFile_X0_isFile rfl ok_X0_isFile ⟨by decide, by decide⟩ ⟨rfl, rfl⟩ 0 (by decide) rfl rfl (fun hI => cn_X0_isFile X.2.1 Z ad hI d v1 er1) rfl dX0_closeFile_2 rfl (Nat.le_of_ble_eq_true rfl) ?_
  refine g_if_ne (tgt := 10) C dX0_closeFile_5 (by decide) (fun c2 => ?_) (fun c2 => ?_)
  · replace h := gi_neg c2 h
    refine g_aload_n C dX0_closeFile_10 0 rfl ?_
    refine g_iload_n C dX0_closeFile_11 1 rfl ?_
    obtain ⟨r3, er3, h⟩ := gb1 h
    refine g_callWi (rest := []) C gX0_closeFile_X0_isOpen rfl ok_X0_isOpen ⟨by decide, by decide⟩ ⟨rfl, rfl⟩ 0 (by decide) rfl rfl (fun hI => cn_X0_isOpen X.2.1 Z ad hI d v1 er3) rfl dX0_closeFile_12 rfl (Nat.le_of_ble_eq_true rfl) ?_
    refine g_if_ne (tgt := 21) C dX0_closeFile_15 (by decide) (fun c4 => ?_) (fun c4 => ?_)
    · replace h := gi_neg c4 h
      refine g_aload_n C dX0_closeFile_21 0 rfl ?_
      refine g_iload_n C dX0_closeFile_22 1 rfl ?_
      obtain ⟨r5, d6, er5, h⟩ := gb2 h
      refine g_callWi (rest := []) C gX0_closeFile_X0_giveBack rfl ok_X0_giveBack ⟨by decide, by decide⟩ ⟨rfl, rfl⟩ 0 (by decide) rfl rfl (fun hI => cn_X0_giveBack X.2.1 Z ad hI d v1 er5) rfl dX0_closeFile_23 rfl (Nat.le_of_ble_eq_true rfl) ?_
      refine g_istore_n C dX0_closeFile_26 (by decide) [(2, .int r5), (0, .ref (ad 0)), (1, .int v1)] rfl ?_
      refine g_aload_n C dX0_closeFile_27 1 rfl ?_
      refine g_getf (v := .ref (ad 13)) C 0 (by decide) rfl rfl in_X0_closeFile 6 (by decide) fl_X0_closeFile_35 rfl dX0_closeFile_28 ?_
      refine g_iload_n C dX0_closeFile_31 2 rfl ?_
      refine g_aload_n C dX0_closeFile_32 1 rfl ?_
      refine g_getf (v := .ref (ad 11)) C 0 (by decide) rfl rfl in_X0_closeFile 5 (by decide) fl_X0_closeFile_32 rfl dX0_closeFile_33 ?_
      refine g_iload_n C dX0_closeFile_36 2 rfl ?_
      obtain ⟨r7, er7, h⟩ := gb1 h
      refine g_callVi (rest := [.int v1, .ref (ad 13)]) C gX0_closeFile_X3_at rfl ok_X3_at ⟨by decide, by decide⟩ ⟨rfl, rfl⟩ 11 2 (by decide) (adc := fun i => ad (11 + i)) (fun _ _ => rfl) (dskE_row 5 (by decide)) 0 (by decide) rfl rfl (fun hI => cn_X3_at X.2.1 Z (fun i => ad (11 + i)) hI 8 (d6 5) v1 er7) rfl dX0_closeFile_37 rfl (Nat.le_of_ble_eq_true rfl) (dskE Z.2.1 ad d6) (dskE_id 5 (by decide)) ?_
      obtain ⟨w8, ew8, h⟩ := gb1 h
      obtain ⟨d9, ed9, h⟩ := gl h
      refine g_callVv (rest := []) C gX0_closeFile_X3_put rfl ok_X3_put ⟨by decide, by decide⟩ ⟨rfl, rfl⟩ 13 2 (by decide) (adc := fun i => ad (13 + i)) (fun _ _ => rfl) (dskE_row 6 (by decide)) 0 (by decide) rfl rfl (fun hI => cn_X3_put X.2.1 Z (fun i => ad (13 + i)) hI 8 (d6 6) v1 r7 ew8) rfl dX0_closeFile_40 rfl (Nat.le_of_ble_eq_true rfl) (dskE Z.2.1 ad d9) (by rw [ed9]; exact (dskE_up 6 (by decide))) ?_
      refine g_aload_n C dX0_closeFile_43 1 rfl ?_
      refine g_getf (v := .ref (ad 7)) C 0 (by decide) rfl rfl in_X0_closeFile 3 (by decide) fl_X0_closeFile_26 rfl dX0_closeFile_44 ?_
      refine g_iload_n C dX0_closeFile_47 2 rfl ?_
      refine g_iconst (v := 1) C dX0_closeFile_48 (by decide) ?_
      obtain ⟨w10, ew10, h⟩ := gb1 h
      obtain ⟨d11, ed11, h⟩ := gl h
      refine g_callVv (rest := []) C gX0_closeFile_X3_put rfl ok_X3_put ⟨by decide, by decide⟩ ⟨rfl, rfl⟩ 7 2 (by decide) (adc := fun i => ad (7 + i)) (fun _ _ => rfl) (dskE_row 3 (by decide)) 0 (by decide) rfl rfl (fun hI => cn_X3_put X.2.1 Z (fun i => ad (7 + i)) hI 8 (d9 3) v1 1 ew10) rfl dX0_closeFile_49 rfl (Nat.le_of_ble_eq_true rfl) (dskE Z.2.1 ad d11) (by rw [ed11]; exact (dskE_up 3 (by decide))) ?_
      refine g_iload_n C dX0_closeFile_52 0 rfl ?_
      obtain ⟨rfl, rfl⟩ := gs2 h
      exact g_iret C e dX0_closeFile_53
    · replace h := gi_pos c4 h
      refine g_bipush (v := (-4)) C dX0_closeFile_18 (by decide) ?_
      obtain ⟨rfl, rfl⟩ := gs2 h
      exact g_iret C e dX0_closeFile_20
  · replace h := gi_pos c2 h
    refine g_iconst (v := (-1)) C dX0_closeFile_8 (by decide) ?_
    obtain ⟨rfl, rfl⟩ := gs2 h
    exact g_iret C e dX0_closeFile_9
abbrev rm_X0_removeFile : Room := ({ frames := 2, cells := 0, slots := 0, locals := 45 } : Room)
def f_X0_removeFile (d : Nat → Nat → Int32) (v1 : Int32) : Option (Int32 × (Nat → Nat → Int32)) := gb (f_X0_isFile d v1) (fun r1 => if r1 = 0 then some ((-1), d) else gb (f_X0_isOpen d v1) (fun r3 => if r3 = 0 then gb (f_X3_at 8 (d 4) v1) (fun r5 => gb (f_X0_freeFrom d v1 0) (fun d6 => gb (f_X3_put 8 (d6 5) v1 0) (fun w7 => glet (va_up d6 5 w7) (fun d8 => gb (f_X3_put 8 (d8 3) v1 0) (fun w9 => glet (va_up d8 3 w9) (fun d10 => some (r5, d10))))))) else some ((-4), d)))
set_option maxRecDepth 20000 in
theorem in_X0_removeFile : ∀ w ∈ wsX00, w ∈ wsX0_removeFile := by decide +kernel
set_option maxRecDepth 20000 in
theorem fl_X0_removeFile_26 : Cond.fieldLink RX0 26 (TX0 3).1 (TX0 3).2.1 (TX0 3).2.2.1 ∈ wsX0_removeFile := by decide +kernel
set_option maxRecDepth 20000 in
theorem fl_X0_removeFile_32 : Cond.fieldLink RX0 32 (TX0 5).1 (TX0 5).2.1 (TX0 5).2.2.1 ∈ wsX0_removeFile := by decide +kernel
set_option maxRecDepth 20000 in
theorem fl_X0_removeFile_29 : Cond.fieldLink RX0 29 (TX0 4).1 (TX0 4).2.1 (TX0 4).2.2.1 ∈ wsX0_removeFile := by decide +kernel
set_option maxHeartbeats 4000000 in
set_option maxRecDepth 100000 in
theorem cn_X0_removeFile (l : Launch) (Z : gZ) (ad : Nat → Nat) (hI : gInj 21 ad) (d : Nat → Nat → Int32) (v1 : Int32) {r : Int32} {d' : Nat → Nat → Int32} (h : f_X0_removeFile d v1 = some (r, d')) : gI l yX0_removeFile wsX0_removeFile rm_X0_removeFile Z 21 ad [.ref (ad 0), .int v1] (dskE Z.2.1 ad d) r (dskE Z.2.1 ad d') := by
  refine g_entryI (cc := cX0_removeFile) (maxL := 3) (by decide +kernel) rfl hI (Nat.le_of_ble_eq_true rfl) (fun X C e => ?_)
  unfold f_X0_removeFile at h
  show GG X Z 3 21 ad (dskE Z.2.1 ad d) 0 [(0, .ref (ad 0)), (1, .int v1)] []
  refine g_aload_n C dX0_removeFile_0 0 rfl ?_
  refine g_iload_n C dX0_removeFile_1 1 rfl ?_
  obtain ⟨r1, er1, h⟩ := gb1 h
  refine g_callWi (rest := []) C gX0_removeFile_X0_isFile rfl ok_X0_isFile ⟨by decide, by decide⟩ ⟨rfl, rfl⟩ 0 (by decide) rfl rfl (fun hI => cn_X0_isFile X.2.1 Z ad hI d v1 er1) rfl dX0_removeFile_2 rfl (Nat.le_of_ble_eq_true rfl) ?_
  refine g_if_ne (tgt := 10) C dX0_removeFile_5 (by decide) (fun c2 => ?_) (fun c2 => ?_)
  · replace h := gi_neg c2 h
    refine g_aload_n C dX0_removeFile_10 0 rfl ?_
    refine g_iload_n C dX0_removeFile_11 1 rfl ?_
    obtain ⟨r3, er3, h⟩ := gb1 h
    refine g_callWi (rest := []) C gX0_removeFile_X0_isOpen rfl ok_X0_isOpen ⟨by decide, by decide⟩ ⟨rfl, rfl⟩ 0 (by decide) rfl rfl (fun hI => cn_X0_isOpen X.2.1 Z ad hI d v1 er3) rfl dX0_removeFile_12 rfl (Nat.le_of_ble_eq_true rfl) ?_
    refine g_if_eq (tgt := 21) C dX0_removeFile_15 (by decide) (fun c4 => ?_) (fun c4 => ?_)
    · replace h := gi_pos c4 h
      refine g_aload_n C dX0_removeFile_21 0 rfl ?_
      refine g_getf (v := .ref (ad 9)) C 0 (by decide) rfl rfl in_X0_removeFile 4 (by decide) fl_X0_removeFile_29 rfl dX0_removeFile_22 ?_
      refine g_iload_n C dX0_removeFile_25 1 rfl ?_
      obtain ⟨r5, er5, h⟩ := gb1 h
      refine g_callVi (rest := []) C gX0_removeFile_X3_at rfl ok_X3_at ⟨by decide, by decide⟩ ⟨rfl, rfl⟩ 9 2 (by decide) (adc := fun i => ad (9 + i)) (fun _ _ => rfl) (dskE_row 4 (by decide)) 0 (by decide) rfl rfl (fun hI => cn_X3_at X.2.1 Z (fun i => ad (9 + i)) hI 8 (d 4) v1 er5) rfl dX0_removeFile_26 rfl (Nat.le_of_ble_eq_true rfl) (dskE Z.2.1 ad d) (dskE_id 4 (by decide)) ?_
      refine g_istore_n C dX0_removeFile_29 (by decide) [(2, .int r5), (0, .ref (ad 0)), (1, .int v1)] rfl ?_
      refine g_aload_n C dX0_removeFile_30 1 rfl ?_
      refine g_iload_n C dX0_removeFile_31 2 rfl ?_
      refine g_iconst (v := 0) C dX0_removeFile_32 (by decide) ?_
      obtain ⟨d6, ed6, h⟩ := gb1 h
      refine g_callWv (rest := []) C gX0_removeFile_X0_freeFrom rfl ok_X0_freeFrom ⟨by decide, by decide⟩ ⟨rfl, rfl⟩ 0 (by decide) rfl rfl (fun hI => cn_X0_freeFrom X.2.1 Z ad hI d v1 0 ed6) rfl dX0_removeFile_33 rfl (Nat.le_of_ble_eq_true rfl) ?_
      refine g_aload_n C dX0_removeFile_36 1 rfl ?_
      refine g_getf (v := .ref (ad 11)) C 0 (by decide) rfl rfl in_X0_removeFile 5 (by decide) fl_X0_removeFile_32 rfl dX0_removeFile_37 ?_
      refine g_iload_n C dX0_removeFile_40 2 rfl ?_
      refine g_iconst (v := 0) C dX0_removeFile_41 (by decide) ?_
      obtain ⟨w7, ew7, h⟩ := gb1 h
      obtain ⟨d8, ed8, h⟩ := gl h
      refine g_callVv (rest := []) C gX0_removeFile_X3_put rfl ok_X3_put ⟨by decide, by decide⟩ ⟨rfl, rfl⟩ 11 2 (by decide) (adc := fun i => ad (11 + i)) (fun _ _ => rfl) (dskE_row 5 (by decide)) 0 (by decide) rfl rfl (fun hI => cn_X3_put X.2.1 Z (fun i => ad (11 + i)) hI 8 (d6 5) v1 0 ew7) rfl dX0_removeFile_42 rfl (Nat.le_of_ble_eq_true rfl) (dskE Z.2.1 ad d8) (by rw [ed8]; exact (dskE_up 5 (by decide))) ?_
      refine g_aload_n C dX0_removeFile_45 1 rfl ?_
      refine g_getf (v := .ref (ad 7)) C 0 (by decide) rfl rfl in_X0_removeFile 3 (by decide) fl_X0_removeFile_26 rfl dX0_removeFile_46 ?_
      refine g_iload_n C dX0_removeFile_49 2 rfl ?_
      refine g_iconst (v := 0) C dX0_removeFile_50 (by decide) ?_
      obtain ⟨w9, ew9, h⟩ := gb1 h
      obtain ⟨d10, ed10, h⟩ := gl h
      refine g_callVv (rest := []) C gX0_removeFile_X3_put rfl ok_X3_put ⟨by decide, by decide⟩ ⟨rfl, rfl⟩ 7 2 (by decide) (adc := fun i => ad (7 + i)) (fun _ _ => rfl) (dskE_row 3 (by decide)) 0 (by decide) rfl rfl (fun hI => cn_X3_put X.2.1 Z (fun i => ad (7 + i)) hI 8 (d8 3) v1 0 ew9) rfl dX0_removeFile_51 rfl (Nat.le_of_ble_eq_true rfl) (dskE Z.2.1 ad d10) (by rw [ed10]; exact (dskE_up 3 (by decide))) ?_
      refine g_iload_n C dX0_removeFile_54 0 rfl ?_
      obtain ⟨rfl, rfl⟩ := gs2 h
      exact g_iret C e dX0_removeFile_55
    · replace h := gi_neg c4 h
      refine g_bipush (v := (-4)) C dX0_removeFile_18 (by decide) ?_
      obtain ⟨rfl, rfl⟩ := gs2 h
      exact g_iret C e dX0_removeFile_20
  · replace h := gi_pos c2 h
    refine g_iconst (v := (-1)) C dX0_removeFile_8 (by decide) ?_
    obtain ⟨rfl, rfl⟩ := gs2 h
    exact g_iret C e dX0_removeFile_9
abbrev rm_X0_syncFile : Room := ({ frames := 2, cells := 0, slots := 0, locals := 43 } : Room)
def f_X0_syncFile (d : Nat → Nat → Int32) (v1 : Int32) : Option (Int32 × (Nat → Nat → Int32)) := gb (f_X0_isFile d v1) (fun r1 => if r1 = 0 then some ((-1), d) else gb (f_X0_isOpen d v1) (fun r3 => if r3 = 0 then some ((-4), d) else gb (f_X3_at 8 (d 5) v1) (fun r5 => gb (f_X3_at 8 (d 6) v1) (fun r6 => glet (r5 - r6) (fun x7 => gb (f_X3_at 8 (d 5) v1) (fun r8 => gb (f_X3_put 8 (d 6) v1 r8) (fun w9 => glet (va_up d 6 w9) (fun d10 => some (x7, d10)))))))))
set_option maxRecDepth 20000 in
theorem in_X0_syncFile : ∀ w ∈ wsX00, w ∈ wsX0_syncFile := by decide +kernel
set_option maxRecDepth 20000 in
theorem fl_X0_syncFile_32 : Cond.fieldLink RX0 32 (TX0 5).1 (TX0 5).2.1 (TX0 5).2.2.1 ∈ wsX0_syncFile := by decide +kernel
set_option maxRecDepth 20000 in
theorem fl_X0_syncFile_35 : Cond.fieldLink RX0 35 (TX0 6).1 (TX0 6).2.1 (TX0 6).2.2.1 ∈ wsX0_syncFile := by decide +kernel
set_option maxHeartbeats 4000000 in
set_option maxRecDepth 100000 in
theorem cn_X0_syncFile (l : Launch) (Z : gZ) (ad : Nat → Nat) (hI : gInj 21 ad) (d : Nat → Nat → Int32) (v1 : Int32) {r : Int32} {d' : Nat → Nat → Int32} (h : f_X0_syncFile d v1 = some (r, d')) : gI l yX0_syncFile wsX0_syncFile rm_X0_syncFile Z 21 ad [.ref (ad 0), .int v1] (dskE Z.2.1 ad d) r (dskE Z.2.1 ad d') := by
  refine g_entryI (cc := cX0_syncFile) (maxL := 3) (by decide +kernel) rfl hI (Nat.le_of_ble_eq_true rfl) (fun X C e => ?_)
  unfold f_X0_syncFile at h
  show GG X Z 3 21 ad (dskE Z.2.1 ad d) 0 [(0, .ref (ad 0)), (1, .int v1)] []
  refine g_aload_n C dX0_syncFile_0 0 rfl ?_
  refine g_iload_n C dX0_syncFile_1 1 rfl ?_
  obtain ⟨r1, er1, h⟩ := gb1 h
  refine g_callWi (rest := []) C gX0_syncFile_X0_isFile rfl ok_X0_isFile ⟨by decide, by decide⟩ ⟨rfl, rfl⟩ 0 (by decide) rfl rfl (fun hI => cn_X0_isFile X.2.1 Z ad hI d v1 er1) rfl dX0_syncFile_2 rfl (Nat.le_of_ble_eq_true rfl) ?_
  refine g_if_ne (tgt := 10) C dX0_syncFile_5 (by decide) (fun c2 => ?_) (fun c2 => ?_)
  · replace h := gi_neg c2 h
    refine g_aload_n C dX0_syncFile_10 0 rfl ?_
    refine g_iload_n C dX0_syncFile_11 1 rfl ?_
    obtain ⟨r3, er3, h⟩ := gb1 h
    refine g_callWi (rest := []) C gX0_syncFile_X0_isOpen rfl ok_X0_isOpen ⟨by decide, by decide⟩ ⟨rfl, rfl⟩ 0 (by decide) rfl rfl (fun hI => cn_X0_isOpen X.2.1 Z ad hI d v1 er3) rfl dX0_syncFile_12 rfl (Nat.le_of_ble_eq_true rfl) ?_
    refine g_if_ne (tgt := 21) C dX0_syncFile_15 (by decide) (fun c4 => ?_) (fun c4 => ?_)
    · replace h := gi_neg c4 h
      refine g_aload_n C dX0_syncFile_21 0 rfl ?_
      refine g_getf (v := .ref (ad 11)) C 0 (by decide) rfl rfl in_X0_syncFile 5 (by decide) fl_X0_syncFile_32 rfl dX0_syncFile_22 ?_
      refine g_iload_n C dX0_syncFile_25 1 rfl ?_
      obtain ⟨r5, er5, h⟩ := gb1 h
      refine g_callVi (rest := []) C gX0_syncFile_X3_at rfl ok_X3_at ⟨by decide, by decide⟩ ⟨rfl, rfl⟩ 11 2 (by decide) (adc := fun i => ad (11 + i)) (fun _ _ => rfl) (dskE_row 5 (by decide)) 0 (by decide) rfl rfl (fun hI => cn_X3_at X.2.1 Z (fun i => ad (11 + i)) hI 8 (d 5) v1 er5) rfl dX0_syncFile_26 rfl (Nat.le_of_ble_eq_true rfl) (dskE Z.2.1 ad d) (dskE_id 5 (by decide)) ?_
      refine g_aload_n C dX0_syncFile_29 0 rfl ?_
      refine g_getf (v := .ref (ad 13)) C 0 (by decide) rfl rfl in_X0_syncFile 6 (by decide) fl_X0_syncFile_35 rfl dX0_syncFile_30 ?_
      refine g_iload_n C dX0_syncFile_33 1 rfl ?_
      obtain ⟨r6, er6, h⟩ := gb1 h
      refine g_callVi (rest := [.int r5]) C gX0_syncFile_X3_at rfl ok_X3_at ⟨by decide, by decide⟩ ⟨rfl, rfl⟩ 13 2 (by decide) (adc := fun i => ad (13 + i)) (fun _ _ => rfl) (dskE_row 6 (by decide)) 0 (by decide) rfl rfl (fun hI => cn_X3_at X.2.1 Z (fun i => ad (13 + i)) hI 8 (d 6) v1 er6) rfl dX0_syncFile_34 rfl (Nat.le_of_ble_eq_true rfl) (dskE Z.2.1 ad d) (dskE_id 6 (by decide)) ?_
      refine g_isub C dX0_syncFile_37 ?_
      obtain ⟨x7, ex7, h⟩ := gl h
      refine g_istore_n C dX0_syncFile_38 (by decide) [(2, .int x7), (0, .ref (ad 0)), (1, .int v1)] (by rw [ex7]; rfl) ?_
      refine g_aload_n C dX0_syncFile_39 1 rfl ?_
      refine g_getf (v := .ref (ad 13)) C 0 (by decide) rfl rfl in_X0_syncFile 6 (by decide) fl_X0_syncFile_35 rfl dX0_syncFile_40 ?_
      refine g_iload_n C dX0_syncFile_43 2 rfl ?_
      refine g_aload_n C dX0_syncFile_44 1 rfl ?_
      refine g_getf (v := .ref (ad 11)) C 0 (by decide) rfl rfl in_X0_syncFile 5 (by decide) fl_X0_syncFile_32 rfl dX0_syncFile_45 ?_
      refine g_iload_n C dX0_syncFile_48 2 rfl ?_
      obtain ⟨r8, er8, h⟩ := gb1 h
      refine g_callVi (rest := [.int v1, .ref (ad 13)]) C gX0_syncFile_X3_at rfl ok_X3_at ⟨by decide, by decide⟩ ⟨rfl, rfl⟩ 11 2 (by decide) (adc := fun i => ad (11 + i)) (fun _ _ => rfl) (dskE_row 5 (by decide)) 0 (by decide) rfl rfl (fun hI => cn_X3_at X.2.1 Z (fun i => ad (11 + i)) hI 8 (d 5) v1 er8) rfl dX0_syncFile_49 rfl (Nat.le_of_ble_eq_true rfl) (dskE Z.2.1 ad d) (dskE_id 5 (by decide)) ?_
      obtain ⟨w9, ew9, h⟩ := gb1 h
      obtain ⟨d10, ed10, h⟩ := gl h
      refine g_callVv (rest := []) C gX0_syncFile_X3_put rfl ok_X3_put ⟨by decide, by decide⟩ ⟨rfl, rfl⟩ 13 2 (by decide) (adc := fun i => ad (13 + i)) (fun _ _ => rfl) (dskE_row 6 (by decide)) 0 (by decide) rfl rfl (fun hI => cn_X3_put X.2.1 Z (fun i => ad (13 + i)) hI 8 (d 6) v1 r8 ew9) rfl dX0_syncFile_52 rfl (Nat.le_of_ble_eq_true rfl) (dskE Z.2.1 ad d10) (by rw [ed10]; exact (dskE_up 6 (by decide))) ?_
      refine g_iload_n C dX0_syncFile_55 0 rfl ?_
      obtain ⟨rfl, rfl⟩ := gs2 h
      exact g_iret C e dX0_syncFile_56
    · replace h := gi_pos c4 h
      refine g_bipush (v := (-4)) C dX0_syncFile_18 (by decide) ?_
      obtain ⟨rfl, rfl⟩ := gs2 h
      exact g_iret C e dX0_syncFile_20
  · replace h := gi_pos c2 h
    refine g_iconst (v := (-1)) C dX0_syncFile_8 (by decide) ?_
    obtain ⟨rfl, rfl⟩ := gs2 h
    exact g_iret C e dX0_syncFile_9
abbrev rm_X0_dataBlocks : Room := ({ frames := 1, cells := 0, slots := 0, locals := 21 } : Room)
def f_X0_dataBlocks_L4 (d : Nat → Nat → Int32) : Nat → Int32 → Int32 → Option Int32
  | 0, _, _ => none
  | fu + 1, v1, v2 => if 8 ≤ v2 then some v1 else gb (f_X3_at 8 (d 5) v2) (fun r2 => glet (v1 + r2) (fun x3 => glet (v2 + 1) (fun x4 => f_X0_dataBlocks_L4 d fu x3 x4)))
def f_X0_dataBlocks (d : Nat → Nat → Int32) : Option Int32 := f_X0_dataBlocks_L4 d gFu 0 0
set_option maxRecDepth 20000 in
theorem in_X0_dataBlocks : ∀ w ∈ wsX00, w ∈ wsX0_dataBlocks := by decide +kernel
set_option maxRecDepth 20000 in
theorem fl_X0_dataBlocks_32 : Cond.fieldLink RX0 32 (TX0 5).1 (TX0 5).2.1 (TX0 5).2.2.1 ∈ wsX0_dataBlocks := by decide +kernel
set_option maxHeartbeats 4000000 in
set_option maxRecDepth 100000 in
theorem cl_X0_dataBlocks_L4 {X : gX} {Z : gZ} {ad : Nat → Nat} {d : Nat → Nat → Int32} {r : Int32} (C : GC X Z cX0_dataBlocks 3 wsX0_dataBlocks RX0 rm_X0_dataBlocks 21 ad) (e : gEI X Z 21 ad .int r (dskE Z.2.1 ad d))  : ∀ (fu : Nat) (v1 : Int32) (v2 : Int32) (h : f_X0_dataBlocks_L4 d fu v1 v2 = some r), GG X Z 3 21 ad (dskE Z.2.1 ad d) 4 [(0, .ref (ad 0)), (1, .int v1), (2, .int v2)] [] := by
  intro fu
  induction fu with
  | zero => intro v1 v2 h; cases h
  | succ fu ih =>
    intro v1 v2 h
    rw [f_X0_dataBlocks_L4] at h
    refine g_iload_n C dX0_dataBlocks_4 2 rfl ?_
    refine g_bipush (v := 8) C dX0_dataBlocks_5 (by decide) ?_
    refine g_icmp_ge (tgt := 27) C dX0_dataBlocks_7 (by decide) (fun c1 => ?_) (fun c1 => ?_)
    · replace h := gi_pos c1 h
      refine g_iload_n C dX0_dataBlocks_27 1 rfl ?_
      obtain rfl := gs1 h
      exact g_iret C e dX0_dataBlocks_28
    · replace h := gi_neg c1 h
      refine g_iload_n C dX0_dataBlocks_10 1 rfl ?_
      refine g_aload_n C dX0_dataBlocks_11 0 rfl ?_
      refine g_getf (v := .ref (ad 11)) C 0 (by decide) rfl rfl in_X0_dataBlocks 5 (by decide) fl_X0_dataBlocks_32 rfl dX0_dataBlocks_12 ?_
      refine g_iload_n C dX0_dataBlocks_15 2 rfl ?_
      obtain ⟨r2, er2, h⟩ := gb1 h
      refine g_callVi (rest := [.int v1]) C gX0_dataBlocks_X3_at rfl ok_X3_at ⟨by decide, by decide⟩ ⟨rfl, rfl⟩ 11 2 (by decide) (adc := fun i => ad (11 + i)) (fun _ _ => rfl) (dskE_row 5 (by decide)) 0 (by decide) rfl rfl (fun hI => cn_X3_at X.2.1 Z (fun i => ad (11 + i)) hI 8 (d 5) v2 er2) rfl dX0_dataBlocks_16 rfl (Nat.le_of_ble_eq_true rfl) (dskE Z.2.1 ad d) (dskE_id 5 (by decide)) ?_
      refine g_iadd C dX0_dataBlocks_19 ?_
      obtain ⟨x3, ex3, h⟩ := gl h
      refine g_istore_n C dX0_dataBlocks_20 (by decide) [(1, .int x3), (0, .ref (ad 0)), (2, .int v2)] (by rw [ex3]; rfl) ?_
      obtain ⟨x4, ex4, h⟩ := gl h
      refine g_iinc (v := x4) C dX0_dataBlocks_21 2 rfl (by rw [ex4]; rfl) (by decide) [(2, .int x4), (1, .int x3), (0, .ref (ad 0))] rfl ?_
      refine g_goto (tgt := 4) C dX0_dataBlocks_24 (by decide) ?_
      exact g_sub [2, 1, 0] rfl (ih x3 x4 h)
set_option maxHeartbeats 4000000 in
set_option maxRecDepth 100000 in
theorem cn_X0_dataBlocks (l : Launch) (Z : gZ) (ad : Nat → Nat) (hI : gInj 21 ad) (d : Nat → Nat → Int32) {r : Int32} (h : f_X0_dataBlocks d = some r) : gI l yX0_dataBlocks wsX0_dataBlocks rm_X0_dataBlocks Z 21 ad [.ref (ad 0)] (dskE Z.2.1 ad d) r (dskE Z.2.1 ad d) := by
  refine g_entryI (cc := cX0_dataBlocks) (maxL := 3) (by decide +kernel) rfl hI (Nat.le_of_ble_eq_true rfl) (fun X C e => ?_)
  unfold f_X0_dataBlocks at h
  show GG X Z 3 21 ad (dskE Z.2.1 ad d) 0 [(0, .ref (ad 0))] []
  refine g_iconst (v := 0) C dX0_dataBlocks_0 (by decide) ?_
  refine g_istore_n C dX0_dataBlocks_1 (by decide) [(1, .int 0), (0, .ref (ad 0))] rfl ?_
  refine g_iconst (v := 0) C dX0_dataBlocks_2 (by decide) ?_
  refine g_istore_n C dX0_dataBlocks_3 (by decide) [(2, .int 0), (1, .int 0), (0, .ref (ad 0))] rfl ?_
  exact g_sub [2, 1, 0] rfl (cl_X0_dataBlocks_L4 C e gFu 0 0 h)
abbrev rm_X0_blocksWithoutData : Room := ({ frames := 2, cells := 0, slots := 0, locals := 43 } : Room)
def f_X0_blocksWithoutData (d : Nat → Nat → Int32) : Option Int32 := gb (f_X0_dataBlocks d) (fun r1 => some (64 - r1))
set_option maxHeartbeats 4000000 in
set_option maxRecDepth 100000 in
theorem cn_X0_blocksWithoutData (l : Launch) (Z : gZ) (ad : Nat → Nat) (hI : gInj 21 ad) (d : Nat → Nat → Int32) {r : Int32} (h : f_X0_blocksWithoutData d = some r) : gI l yX0_blocksWithoutData wsX0_blocksWithoutData rm_X0_blocksWithoutData Z 21 ad [.ref (ad 0)] (dskE Z.2.1 ad d) r (dskE Z.2.1 ad d) := by
  refine g_entryI (cc := cX0_blocksWithoutData) (maxL := 1) (by decide +kernel) rfl hI (Nat.le_of_ble_eq_true rfl) (fun X C e => ?_)
  unfold f_X0_blocksWithoutData at h
  show GG X Z 1 21 ad (dskE Z.2.1 ad d) 0 [(0, .ref (ad 0))] []
  refine g_bipush (v := 64) C dX0_blocksWithoutData_0 (by decide) ?_
  refine g_aload_n C dX0_blocksWithoutData_2 0 rfl ?_
  obtain ⟨r1, er1, h⟩ := gb1 h
  refine g_callWi (rest := [.int 64]) C gX0_blocksWithoutData_X0_dataBlocks rfl ok_X0_dataBlocks ⟨by decide, by decide⟩ ⟨rfl, rfl⟩ 0 (by decide) rfl rfl (fun hI => cn_X0_dataBlocks X.2.1 Z ad hI d  er1) rfl dX0_blocksWithoutData_3 rfl (Nat.le_of_ble_eq_true rfl) ?_
  refine g_isub C dX0_blocksWithoutData_6 ?_
  obtain rfl := gs1 h
  exact g_iret C e dX0_blocksWithoutData_7
abbrev rm_X0_freeBlocks : Room := ({ frames := 1, cells := 0, slots := 0, locals := 22 } : Room)
def f_X0_freeBlocks_L4 (d : Nat → Nat → Int32) : Nat → Int32 → Int32 → Option Int32
  | 0, _, _ => none
  | fu + 1, v1, v2 => if 64 ≤ v2 then some v1 else gb (f_X3_holds 64 (d 1) v2 (-5)) (fun r2 => if r2 = 0 then glet (v2 + 1) (fun x4 => f_X0_freeBlocks_L4 d fu v1 x4) else glet (v1 + 1) (fun x5 => glet (v2 + 1) (fun x6 => f_X0_freeBlocks_L4 d fu x5 x6)))
def f_X0_freeBlocks (d : Nat → Nat → Int32) : Option Int32 := f_X0_freeBlocks_L4 d gFu 0 0
set_option maxRecDepth 20000 in
theorem in_X0_freeBlocks : ∀ w ∈ wsX00, w ∈ wsX0_freeBlocks := by decide +kernel
set_option maxRecDepth 20000 in
theorem fl_X0_freeBlocks_20 : Cond.fieldLink RX0 20 (TX0 1).1 (TX0 1).2.1 (TX0 1).2.2.1 ∈ wsX0_freeBlocks := by decide +kernel
set_option maxHeartbeats 4000000 in
set_option maxRecDepth 100000 in
theorem cl_X0_freeBlocks_L4 {X : gX} {Z : gZ} {ad : Nat → Nat} {d : Nat → Nat → Int32} {r : Int32} (C : GC X Z cX0_freeBlocks 3 wsX0_freeBlocks RX0 rm_X0_freeBlocks 21 ad) (e : gEI X Z 21 ad .int r (dskE Z.2.1 ad d))  : ∀ (fu : Nat) (v1 : Int32) (v2 : Int32) (h : f_X0_freeBlocks_L4 d fu v1 v2 = some r), GG X Z 3 21 ad (dskE Z.2.1 ad d) 4 [(0, .ref (ad 0)), (1, .int v1), (2, .int v2)] [] := by
  intro fu
  induction fu with
  | zero => intro v1 v2 h; cases h
  | succ fu ih =>
    intro v1 v2 h
    rw [f_X0_freeBlocks_L4] at h
    refine g_iload_n C dX0_freeBlocks_4 2 rfl ?_
    refine g_bipush (v := 64) C dX0_freeBlocks_5 (by decide) ?_
    refine g_icmp_ge (tgt := 32) C dX0_freeBlocks_7 (by decide) (fun c1 => ?_) (fun c1 => ?_)
    · replace h := gi_pos c1 h
      refine g_iload_n C dX0_freeBlocks_32 1 rfl ?_
      obtain rfl := gs1 h
      exact g_iret C e dX0_freeBlocks_33
    · replace h := gi_neg c1 h
      refine g_aload_n C dX0_freeBlocks_10 0 rfl ?_
      refine g_getf (v := .ref (ad 3)) C 0 (by decide) rfl rfl in_X0_freeBlocks 1 (by decide) fl_X0_freeBlocks_20 rfl dX0_freeBlocks_11 ?_
      refine g_iload_n C dX0_freeBlocks_14 2 rfl ?_
      refine g_bipush (v := (-5)) C dX0_freeBlocks_15 (by decide) ?_
      obtain ⟨r2, er2, h⟩ := gb1 h
      refine g_callVi (rest := []) C gX0_freeBlocks_X3_holds rfl ok_X3_holds ⟨by decide, by decide⟩ ⟨rfl, rfl⟩ 3 2 (by decide) (adc := fun i => ad (3 + i)) (fun _ _ => rfl) (dskE_row 1 (by decide)) 0 (by decide) rfl rfl (fun hI => cn_X3_holds X.2.1 Z (fun i => ad (3 + i)) hI 64 (d 1) v2 (-5) er2) rfl dX0_freeBlocks_17 rfl (Nat.le_of_ble_eq_true rfl) (dskE Z.2.1 ad d) (dskE_id 1 (by decide)) ?_
      refine g_if_eq (tgt := 26) C dX0_freeBlocks_20 (by decide) (fun c3 => ?_) (fun c3 => ?_)
      · replace h := gi_pos c3 h
        obtain ⟨x4, ex4, h⟩ := gl h
        refine g_iinc (v := x4) C dX0_freeBlocks_26 2 rfl (by rw [ex4]; rfl) (by decide) [(2, .int x4), (0, .ref (ad 0)), (1, .int v1)] rfl ?_
        refine g_goto (tgt := 4) C dX0_freeBlocks_29 (by decide) ?_
        exact g_sub [1, 2, 0] rfl (ih v1 x4 h)
      · replace h := gi_neg c3 h
        obtain ⟨x5, ex5, h⟩ := gl h
        refine g_iinc (v := x5) C dX0_freeBlocks_23 1 rfl (by rw [ex5]; rfl) (by decide) [(1, .int x5), (0, .ref (ad 0)), (2, .int v2)] rfl ?_
        obtain ⟨x6, ex6, h⟩ := gl h
        refine g_iinc (v := x6) C dX0_freeBlocks_26 2 rfl (by rw [ex6]; rfl) (by decide) [(2, .int x6), (1, .int x5), (0, .ref (ad 0))] rfl ?_
        refine g_goto (tgt := 4) C dX0_freeBlocks_29 (by decide) ?_
        exact g_sub [2, 1, 0] rfl (ih x5 x6 h)
set_option maxHeartbeats 4000000 in
set_option maxRecDepth 100000 in
theorem cn_X0_freeBlocks (l : Launch) (Z : gZ) (ad : Nat → Nat) (hI : gInj 21 ad) (d : Nat → Nat → Int32) {r : Int32} (h : f_X0_freeBlocks d = some r) : gI l yX0_freeBlocks wsX0_freeBlocks rm_X0_freeBlocks Z 21 ad [.ref (ad 0)] (dskE Z.2.1 ad d) r (dskE Z.2.1 ad d) := by
  refine g_entryI (cc := cX0_freeBlocks) (maxL := 3) (by decide +kernel) rfl hI (Nat.le_of_ble_eq_true rfl) (fun X C e => ?_)
  unfold f_X0_freeBlocks at h
  show GG X Z 3 21 ad (dskE Z.2.1 ad d) 0 [(0, .ref (ad 0))] []
  refine g_iconst (v := 0) C dX0_freeBlocks_0 (by decide) ?_
  refine g_istore_n C dX0_freeBlocks_1 (by decide) [(1, .int 0), (0, .ref (ad 0))] rfl ?_
  refine g_iconst (v := 0) C dX0_freeBlocks_2 (by decide) ?_
  refine g_istore_n C dX0_freeBlocks_3 (by decide) [(2, .int 0), (1, .int 0), (0, .ref (ad 0))] rfl ?_
  exact g_sub [2, 1, 0] rfl (cl_X0_freeBlocks_L4 C e gFu 0 0 h)
abbrev rm_X0_greatestLender : Room := ({ frames := 2, cells := 0, slots := 0, locals := 42 } : Room)
def f_X0_greatestLender_L8 (d : Nat → Nat → Int32) (v1 : Int32) : Nat → Int32 → Int32 → Int32 → Option Int32
  | 0, _, _, _ => none
  | fu + 1, v2, v3, v4 => if 8 ≤ v4 then some v2 else if v4 = v1 then glet (v4 + 1) (fun x3 => f_X0_greatestLender_L8 d v1 fu v2 v3 x3) else gb (f_X0_lentOf d v4) (fun r4 => if r4 ≤ v3 then glet (v4 + 1) (fun x6 => f_X0_greatestLender_L8 d v1 fu v2 v3 x6) else gb (f_X0_lentOf d v4) (fun r7 => glet (v4 + 1) (fun x8 => f_X0_greatestLender_L8 d v1 fu v4 r7 x8)))
def f_X0_greatestLender (d : Nat → Nat → Int32) (v1 : Int32) : Option Int32 := f_X0_greatestLender_L8 d v1 gFu (-5) 0 0
set_option maxHeartbeats 4000000 in
set_option maxRecDepth 100000 in
theorem cl_X0_greatestLender_L8 {X : gX} {Z : gZ} {ad : Nat → Nat} {d : Nat → Nat → Int32} {r : Int32} (C : GC X Z cX0_greatestLender 5 wsX0_greatestLender RX0 rm_X0_greatestLender 21 ad) (e : gEI X Z 21 ad .int r (dskE Z.2.1 ad d)) (v1 : Int32) : ∀ (fu : Nat) (v2 : Int32) (v3 : Int32) (v4 : Int32) (h : f_X0_greatestLender_L8 d v1 fu v2 v3 v4 = some r), GG X Z 5 21 ad (dskE Z.2.1 ad d) 8 [(0, .ref (ad 0)), (1, .int v1), (2, .int v2), (3, .int v3), (4, .int v4)] [] := by
  intro fu
  induction fu with
  | zero => intro v2 v3 v4 h; cases h
  | succ fu ih =>
    intro v2 v3 v4 h
    rw [f_X0_greatestLender_L8] at h
    refine g_iload C dX0_greatestLender_8 4 rfl ?_
    refine g_bipush (v := 8) C dX0_greatestLender_10 (by decide) ?_
    refine g_icmp_ge (tgt := 47) C dX0_greatestLender_12 (by decide) (fun c1 => ?_) (fun c1 => ?_)
    · replace h := gi_pos c1 h
      refine g_iload_n C dX0_greatestLender_47 2 rfl ?_
      obtain rfl := gs1 h
      exact g_iret C e dX0_greatestLender_48
    · replace h := gi_neg c1 h
      refine g_iload C dX0_greatestLender_15 4 rfl ?_
      refine g_iload_n C dX0_greatestLender_17 1 rfl ?_
      refine g_icmp_eq (tgt := 41) C dX0_greatestLender_18 (by decide) (fun c2 => ?_) (fun c2 => ?_)
      · replace h := gi_pos c2 h
        obtain ⟨x3, ex3, h⟩ := gl h
        refine g_iinc (v := x3) C dX0_greatestLender_41 4 rfl (by rw [ex3]; rfl) (by decide) [(4, .int x3), (0, .ref (ad 0)), (1, .int v1), (2, .int v2), (3, .int v3)] rfl ?_
        refine g_goto (tgt := 8) C dX0_greatestLender_44 (by decide) ?_
        exact g_sub [1, 2, 3, 4, 0] rfl (ih v2 v3 x3 h)
      · replace h := gi_neg c2 h
        refine g_aload_n C dX0_greatestLender_21 0 rfl ?_
        refine g_iload C dX0_greatestLender_22 4 rfl ?_
        obtain ⟨r4, er4, h⟩ := gb1 h
        refine g_callWi (rest := []) C gX0_greatestLender_X0_lentOf rfl ok_X0_lentOf ⟨by decide, by decide⟩ ⟨rfl, rfl⟩ 0 (by decide) rfl rfl (fun hI => cn_X0_lentOf X.2.1 Z ad hI d v4 er4) rfl dX0_greatestLender_24 rfl (Nat.le_of_ble_eq_true rfl) ?_
        refine g_iload_n C dX0_greatestLender_27 3 rfl ?_
        refine g_icmp_le (tgt := 41) C dX0_greatestLender_28 (by decide) (fun c5 => ?_) (fun c5 => ?_)
        · replace h := gi_pos c5 h
          obtain ⟨x6, ex6, h⟩ := gl h
          refine g_iinc (v := x6) C dX0_greatestLender_41 4 rfl (by rw [ex6]; rfl) (by decide) [(4, .int x6), (0, .ref (ad 0)), (1, .int v1), (2, .int v2), (3, .int v3)] rfl ?_
          refine g_goto (tgt := 8) C dX0_greatestLender_44 (by decide) ?_
          exact g_sub [1, 2, 3, 4, 0] rfl (ih v2 v3 x6 h)
        · replace h := gi_neg c5 h
          refine g_iload C dX0_greatestLender_31 4 rfl ?_
          refine g_istore_n C dX0_greatestLender_33 (by decide) [(2, .int v4), (0, .ref (ad 0)), (1, .int v1), (3, .int v3), (4, .int v4)] rfl ?_
          refine g_aload_n C dX0_greatestLender_34 1 rfl ?_
          refine g_iload C dX0_greatestLender_35 4 rfl ?_
          obtain ⟨r7, er7, h⟩ := gb1 h
          refine g_callWi (rest := []) C gX0_greatestLender_X0_lentOf rfl ok_X0_lentOf ⟨by decide, by decide⟩ ⟨rfl, rfl⟩ 0 (by decide) rfl rfl (fun hI => cn_X0_lentOf X.2.1 Z ad hI d v4 er7) rfl dX0_greatestLender_37 rfl (Nat.le_of_ble_eq_true rfl) ?_
          refine g_istore_n C dX0_greatestLender_40 (by decide) [(3, .int r7), (2, .int v4), (0, .ref (ad 0)), (1, .int v1), (4, .int v4)] rfl ?_
          obtain ⟨x8, ex8, h⟩ := gl h
          refine g_iinc (v := x8) C dX0_greatestLender_41 4 rfl (by rw [ex8]; rfl) (by decide) [(4, .int x8), (3, .int r7), (2, .int v4), (0, .ref (ad 0)), (1, .int v1)] rfl ?_
          refine g_goto (tgt := 8) C dX0_greatestLender_44 (by decide) ?_
          exact g_sub [3, 4, 2, 1, 0] rfl (ih v4 r7 x8 h)
set_option maxHeartbeats 4000000 in
set_option maxRecDepth 100000 in
theorem cn_X0_greatestLender (l : Launch) (Z : gZ) (ad : Nat → Nat) (hI : gInj 21 ad) (d : Nat → Nat → Int32) (v1 : Int32) {r : Int32} (h : f_X0_greatestLender d v1 = some r) : gI l yX0_greatestLender wsX0_greatestLender rm_X0_greatestLender Z 21 ad [.ref (ad 0), .int v1] (dskE Z.2.1 ad d) r (dskE Z.2.1 ad d) := by
  refine g_entryI (cc := cX0_greatestLender) (maxL := 5) (by decide +kernel) rfl hI (Nat.le_of_ble_eq_true rfl) (fun X C e => ?_)
  unfold f_X0_greatestLender at h
  show GG X Z 5 21 ad (dskE Z.2.1 ad d) 0 [(0, .ref (ad 0)), (1, .int v1)] []
  refine g_bipush (v := (-5)) C dX0_greatestLender_0 (by decide) ?_
  refine g_istore_n C dX0_greatestLender_2 (by decide) [(2, .int (-5)), (0, .ref (ad 0)), (1, .int v1)] rfl ?_
  refine g_iconst (v := 0) C dX0_greatestLender_3 (by decide) ?_
  refine g_istore_n C dX0_greatestLender_4 (by decide) [(3, .int 0), (2, .int (-5)), (0, .ref (ad 0)), (1, .int v1)] rfl ?_
  refine g_iconst (v := 0) C dX0_greatestLender_5 (by decide) ?_
  refine g_istore C dX0_greatestLender_6 (by decide) [(4, .int 0), (3, .int 0), (2, .int (-5)), (0, .ref (ad 0)), (1, .int v1)] rfl ?_
  exact g_sub [3, 4, 2, 1, 0] rfl (cl_X0_greatestLender_L8 C e v1 gFu (-5) 0 0 h)
abbrev rm_X0_takeBack : Room := ({ frames := 3, cells := 0, slots := 0, locals := 67 } : Room)
def f_X0_takeBack_L2 (v1 : Int32) (v2 : Int32) : Nat → Int32 → (Nat → Nat → Int32) → Option ((Nat → Nat → Int32))
  | 0, _, _ => none
  | fu + 1, v3, d => if 8 ≤ v3 then some d else gb (f_X0_freeBlocks d) (fun r2 => if v2 ≤ r2 then some d else gb (f_X0_greatestLender d v1) (fun r4 => if r4 = (-5) then some d else gbb2 (f_X0_giveBack d r4) (fun r6 d7 => gb (f_X3_grow 4 (d7 9) 2 1) (fun w8 => glet (va_up d7 9 w8) (fun d9 => glet (v3 + 1) (fun x10 => f_X0_takeBack_L2 v1 v2 fu x10 d9))))))
def f_X0_takeBack (d : Nat → Nat → Int32) (v1 : Int32) (v2 : Int32) : Option ((Nat → Nat → Int32)) := f_X0_takeBack_L2 v1 v2 gFu 0 d
set_option maxRecDepth 20000 in
theorem in_X0_takeBack : ∀ w ∈ wsX00, w ∈ wsX0_takeBack := by decide +kernel
set_option maxRecDepth 20000 in
theorem fl_X0_takeBack_44 : Cond.fieldLink RX0 44 (TX0 9).1 (TX0 9).2.1 (TX0 9).2.2.1 ∈ wsX0_takeBack := by decide +kernel
set_option maxHeartbeats 4000000 in
set_option maxRecDepth 100000 in
theorem cl_X0_takeBack_L2 {X : gX} {Z : gZ} {ad : Nat → Nat}  {d' : Nat → Nat → Int32} (C : GC X Z cX0_takeBack 5 wsX0_takeBack RX0 rm_X0_takeBack 21 ad) (e : gEV X Z 21 ad (dskE Z.2.1 ad d')) (v1 : Int32) (v2 : Int32) : ∀ (fu : Nat) (v3 : Int32) (d : Nat → Nat → Int32) (h : f_X0_takeBack_L2 v1 v2 fu v3 d = some d'), GG X Z 5 21 ad (dskE Z.2.1 ad d) 2 [(0, .ref (ad 0)), (1, .int v1), (2, .int v2), (3, .int v3)] [] := by
  intro fu
  induction fu with
  | zero => intro v3 d h; cases h
  | succ fu ih =>
    intro v3 d h
    rw [f_X0_takeBack_L2] at h
    refine g_iload_n C dX0_takeBack_2 3 rfl ?_
    refine g_bipush (v := 8) C dX0_takeBack_3 (by decide) ?_
    refine g_icmp_ge (tgt := 53) C dX0_takeBack_5 (by decide) (fun c1 => ?_) (fun c1 => ?_)
    · replace h := gi_pos c1 h
      obtain rfl := gs1 h
      exact g_vret C e dX0_takeBack_53
    · replace h := gi_neg c1 h
      refine g_aload_n C dX0_takeBack_8 0 rfl ?_
      obtain ⟨r2, er2, h⟩ := gb1 h
      refine g_callWi (rest := []) C gX0_takeBack_X0_freeBlocks rfl ok_X0_freeBlocks ⟨by decide, by decide⟩ ⟨rfl, rfl⟩ 0 (by decide) rfl rfl (fun hI => cn_X0_freeBlocks X.2.1 Z ad hI d  er2) rfl dX0_takeBack_9 rfl (Nat.le_of_ble_eq_true rfl) ?_
      refine g_iload_n C dX0_takeBack_12 2 rfl ?_
      refine g_icmp_ge (tgt := 53) C dX0_takeBack_13 (by decide) (fun c3 => ?_) (fun c3 => ?_)
      · replace h := gi_pos c3 h
        obtain rfl := gs1 h
        exact g_vret C e dX0_takeBack_53
      · replace h := gi_neg c3 h
        refine g_aload_n C dX0_takeBack_16 0 rfl ?_
        refine g_iload_n C dX0_takeBack_17 1 rfl ?_
        obtain ⟨r4, er4, h⟩ := gb1 h
        refine g_callWi (rest := []) C gX0_takeBack_X0_greatestLender rfl ok_X0_greatestLender ⟨by decide, by decide⟩ ⟨rfl, rfl⟩ 0 (by decide) rfl rfl (fun hI => cn_X0_greatestLender X.2.1 Z ad hI d v1 er4) rfl dX0_takeBack_18 rfl (Nat.le_of_ble_eq_true rfl) ?_
        refine g_istore C dX0_takeBack_21 (by decide) [(4, .int r4), (0, .ref (ad 0)), (1, .int v1), (2, .int v2), (3, .int v3)] rfl ?_
        refine g_iload C dX0_takeBack_23 0 rfl ?_
        refine g_bipush (v := (-5)) C dX0_takeBack_25 (by decide) ?_
        refine g_icmp_ne (tgt := 31) C dX0_takeBack_27 (by decide) (fun c5 => ?_) (fun c5 => ?_)
        · replace h := gi_neg c5 h
          refine g_aload_n C dX0_takeBack_31 1 rfl ?_
          refine g_iload C dX0_takeBack_32 0 rfl ?_
          obtain ⟨r6, d7, er6, h⟩ := gb2 h
          refine g_callWi (rest := []) C gX0_takeBack_X0_giveBack rfl ok_X0_giveBack ⟨by decide, by decide⟩ ⟨rfl, rfl⟩ 0 (by decide) rfl rfl (fun hI => cn_X0_giveBack X.2.1 Z ad hI d r4 er6) rfl dX0_takeBack_34 rfl (Nat.le_of_ble_eq_true rfl) ?_
          refine g_pop C dX0_takeBack_37 rfl ?_
          refine g_aload_n C dX0_takeBack_38 1 rfl ?_
          refine g_getf (v := .ref (ad 19)) C 0 (by decide) rfl rfl in_X0_takeBack 9 (by decide) fl_X0_takeBack_44 rfl dX0_takeBack_39 ?_
          refine g_iconst (v := 2) C dX0_takeBack_42 (by decide) ?_
          refine g_iconst (v := 1) C dX0_takeBack_43 (by decide) ?_
          obtain ⟨w8, ew8, h⟩ := gb1 h
          obtain ⟨d9, ed9, h⟩ := gl h
          refine g_callVv (rest := []) C gX0_takeBack_X3_grow rfl ok_X3_grow ⟨by decide, by decide⟩ ⟨rfl, rfl⟩ 19 2 (by decide) (adc := fun i => ad (19 + i)) (fun _ _ => rfl) (dskE_row 9 (by decide)) 0 (by decide) rfl rfl (fun hI => cn_X3_grow X.2.1 Z (fun i => ad (19 + i)) hI 4 (d7 9) 2 1 ew8) rfl dX0_takeBack_44 rfl (Nat.le_of_ble_eq_true rfl) (dskE Z.2.1 ad d9) (by rw [ed9]; exact (dskE_up 9 (by decide))) ?_
          obtain ⟨x10, ex10, h⟩ := gl h
          refine g_iinc (v := x10) C dX0_takeBack_47 4 rfl (by rw [ex10]; rfl) (by decide) [(3, .int x10), (4, .int r4), (0, .ref (ad 0)), (1, .int v1), (2, .int v2)] rfl ?_
          refine g_goto (tgt := 2) C dX0_takeBack_50 (by decide) ?_
          exact g_sub [2, 3, 4, 0] rfl (ih x10 d9 h)
        · replace h := gi_pos c5 h
          obtain rfl := gs1 h
          exact g_vret C e dX0_takeBack_30
set_option maxHeartbeats 4000000 in
set_option maxRecDepth 100000 in
theorem cn_X0_takeBack (l : Launch) (Z : gZ) (ad : Nat → Nat) (hI : gInj 21 ad) (d : Nat → Nat → Int32) (v1 : Int32) (v2 : Int32) {d' : Nat → Nat → Int32} (h : f_X0_takeBack d v1 v2 = some d') : gV l yX0_takeBack wsX0_takeBack rm_X0_takeBack Z 21 ad [.ref (ad 0), .int v1, .int v2] (dskE Z.2.1 ad d) (dskE Z.2.1 ad d') := by
  refine g_entryV (cc := cX0_takeBack) (maxL := 5) (by decide +kernel) rfl hI (Nat.le_of_ble_eq_true rfl) (fun X C e => ?_)
  unfold f_X0_takeBack at h
  show GG X Z 5 21 ad (dskE Z.2.1 ad d) 0 [(0, .ref (ad 0)), (1, .int v1), (2, .int v2)] []
  refine g_iconst (v := 0) C dX0_takeBack_0 (by decide) ?_
  refine g_istore_n C dX0_takeBack_1 (by decide) [(3, .int 0), (0, .ref (ad 0)), (1, .int v1), (2, .int v2)] rfl ?_
  exact g_sub [1, 2, 3, 0] rfl (cl_X0_takeBack_L2 C e v1 v2 gFu 0 d h)
abbrev rm_X0_blockAt : Room := ({ frames := 1, cells := 0, slots := 0, locals := 22 } : Room)
def f_X0_blockAt_L2 (d : Nat → Nat → Int32) (v1 : Int32) (v2 : Int32) : Nat → Int32 → Option Int32
  | 0, _ => none
  | fu + 1, v3 => if 64 ≤ v3 then some (-5) else gb (f_X3_holds 64 (d 1) v3 v1) (fun r2 => if r2 = 0 then glet (v3 + 1) (fun x4 => f_X0_blockAt_L2 d v1 v2 fu x4) else gb (f_X3_holds 64 (d 2) v3 v2) (fun r5 => if r5 = 0 then glet (v3 + 1) (fun x7 => f_X0_blockAt_L2 d v1 v2 fu x7) else some v3))
def f_X0_blockAt (d : Nat → Nat → Int32) (v1 : Int32) (v2 : Int32) : Option Int32 := f_X0_blockAt_L2 d v1 v2 gFu 0
set_option maxRecDepth 20000 in
theorem in_X0_blockAt : ∀ w ∈ wsX00, w ∈ wsX0_blockAt := by decide +kernel
set_option maxRecDepth 20000 in
theorem fl_X0_blockAt_23 : Cond.fieldLink RX0 23 (TX0 2).1 (TX0 2).2.1 (TX0 2).2.2.1 ∈ wsX0_blockAt := by decide +kernel
set_option maxRecDepth 20000 in
theorem fl_X0_blockAt_20 : Cond.fieldLink RX0 20 (TX0 1).1 (TX0 1).2.1 (TX0 1).2.2.1 ∈ wsX0_blockAt := by decide +kernel
set_option maxHeartbeats 4000000 in
set_option maxRecDepth 100000 in
theorem cl_X0_blockAt_L2 {X : gX} {Z : gZ} {ad : Nat → Nat} {d : Nat → Nat → Int32} {r : Int32} (C : GC X Z cX0_blockAt 4 wsX0_blockAt RX0 rm_X0_blockAt 21 ad) (e : gEI X Z 21 ad .int r (dskE Z.2.1 ad d)) (v1 : Int32) (v2 : Int32) : ∀ (fu : Nat) (v3 : Int32) (h : f_X0_blockAt_L2 d v1 v2 fu v3 = some r), GG X Z 4 21 ad (dskE Z.2.1 ad d) 2 [(0, .ref (ad 0)), (1, .int v1), (2, .int v2), (3, .int v3)] [] := by
  intro fu
  induction fu with
  | zero => intro v3 h; cases h
  | succ fu ih =>
    intro v3 h
    rw [f_X0_blockAt_L2] at h
    refine g_iload_n C dX0_blockAt_2 3 rfl ?_
    refine g_bipush (v := 64) C dX0_blockAt_3 (by decide) ?_
    refine g_icmp_ge (tgt := 40) C dX0_blockAt_5 (by decide) (fun c1 => ?_) (fun c1 => ?_)
    · replace h := gi_pos c1 h
      refine g_bipush (v := (-5)) C dX0_blockAt_40 (by decide) ?_
      obtain rfl := gs1 h
      exact g_iret C e dX0_blockAt_42
    · replace h := gi_neg c1 h
      refine g_aload_n C dX0_blockAt_8 0 rfl ?_
      refine g_getf (v := .ref (ad 3)) C 0 (by decide) rfl rfl in_X0_blockAt 1 (by decide) fl_X0_blockAt_20 rfl dX0_blockAt_9 ?_
      refine g_iload_n C dX0_blockAt_12 3 rfl ?_
      refine g_iload_n C dX0_blockAt_13 1 rfl ?_
      obtain ⟨r2, er2, h⟩ := gb1 h
      refine g_callVi (rest := []) C gX0_blockAt_X3_holds rfl ok_X3_holds ⟨by decide, by decide⟩ ⟨rfl, rfl⟩ 3 2 (by decide) (adc := fun i => ad (3 + i)) (fun _ _ => rfl) (dskE_row 1 (by decide)) 0 (by decide) rfl rfl (fun hI => cn_X3_holds X.2.1 Z (fun i => ad (3 + i)) hI 64 (d 1) v3 v1 er2) rfl dX0_blockAt_14 rfl (Nat.le_of_ble_eq_true rfl) (dskE Z.2.1 ad d) (dskE_id 1 (by decide)) ?_
      refine g_if_eq (tgt := 34) C dX0_blockAt_17 (by decide) (fun c3 => ?_) (fun c3 => ?_)
      · replace h := gi_pos c3 h
        obtain ⟨x4, ex4, h⟩ := gl h
        refine g_iinc (v := x4) C dX0_blockAt_34 3 rfl (by rw [ex4]; rfl) (by decide) [(3, .int x4), (0, .ref (ad 0)), (1, .int v1), (2, .int v2)] rfl ?_
        refine g_goto (tgt := 2) C dX0_blockAt_37 (by decide) ?_
        exact g_sub [1, 2, 3, 0] rfl (ih x4 h)
      · replace h := gi_neg c3 h
        refine g_aload_n C dX0_blockAt_20 0 rfl ?_
        refine g_getf (v := .ref (ad 5)) C 0 (by decide) rfl rfl in_X0_blockAt 2 (by decide) fl_X0_blockAt_23 rfl dX0_blockAt_21 ?_
        refine g_iload_n C dX0_blockAt_24 3 rfl ?_
        refine g_iload_n C dX0_blockAt_25 2 rfl ?_
        obtain ⟨r5, er5, h⟩ := gb1 h
        refine g_callVi (rest := []) C gX0_blockAt_X3_holds rfl ok_X3_holds ⟨by decide, by decide⟩ ⟨rfl, rfl⟩ 5 2 (by decide) (adc := fun i => ad (5 + i)) (fun _ _ => rfl) (dskE_row 2 (by decide)) 0 (by decide) rfl rfl (fun hI => cn_X3_holds X.2.1 Z (fun i => ad (5 + i)) hI 64 (d 2) v3 v2 er5) rfl dX0_blockAt_26 rfl (Nat.le_of_ble_eq_true rfl) (dskE Z.2.1 ad d) (dskE_id 2 (by decide)) ?_
        refine g_if_eq (tgt := 34) C dX0_blockAt_29 (by decide) (fun c6 => ?_) (fun c6 => ?_)
        · replace h := gi_pos c6 h
          obtain ⟨x7, ex7, h⟩ := gl h
          refine g_iinc (v := x7) C dX0_blockAt_34 3 rfl (by rw [ex7]; rfl) (by decide) [(3, .int x7), (0, .ref (ad 0)), (1, .int v1), (2, .int v2)] rfl ?_
          refine g_goto (tgt := 2) C dX0_blockAt_37 (by decide) ?_
          exact g_sub [1, 2, 3, 0] rfl (ih x7 h)
        · replace h := gi_neg c6 h
          refine g_iload_n C dX0_blockAt_32 3 rfl ?_
          obtain rfl := gs1 h
          exact g_iret C e dX0_blockAt_33
set_option maxHeartbeats 4000000 in
set_option maxRecDepth 100000 in
theorem cn_X0_blockAt (l : Launch) (Z : gZ) (ad : Nat → Nat) (hI : gInj 21 ad) (d : Nat → Nat → Int32) (v1 : Int32) (v2 : Int32) {r : Int32} (h : f_X0_blockAt d v1 v2 = some r) : gI l yX0_blockAt wsX0_blockAt rm_X0_blockAt Z 21 ad [.ref (ad 0), .int v1, .int v2] (dskE Z.2.1 ad d) r (dskE Z.2.1 ad d) := by
  refine g_entryI (cc := cX0_blockAt) (maxL := 4) (by decide +kernel) rfl hI (Nat.le_of_ble_eq_true rfl) (fun X C e => ?_)
  unfold f_X0_blockAt at h
  show GG X Z 4 21 ad (dskE Z.2.1 ad d) 0 [(0, .ref (ad 0)), (1, .int v1), (2, .int v2)] []
  refine g_iconst (v := 0) C dX0_blockAt_0 (by decide) ?_
  refine g_istore_n C dX0_blockAt_1 (by decide) [(3, .int 0), (0, .ref (ad 0)), (1, .int v1), (2, .int v2)] rfl ?_
  exact g_sub [1, 2, 3, 0] rfl (cl_X0_blockAt_L2 C e v1 v2 gFu 0 h)
abbrev rm_X0_addFrom : Room := ({ frames := 1, cells := 0, slots := 0, locals := 22 } : Room)
def f_X0_addFrom_L3 (v1 : Int32) (v2 : Int32) (v3 : Int32) : Nat → Int32 → (Nat → Nat → Int32) → Option (Int32 × (Nat → Nat → Int32))
  | 0, _, _ => none
  | fu + 1, v4, d => if v3 ≤ v4 then some (v4, d) else gb (f_X3_holds 64 (d 1) (v2 + v4) (-5)) (fun r2 => if r2 = 0 then some (v4, d) else gb (f_X3_put 64 (d 1) (v2 + v4) v1) (fun w4 => glet (va_up d 1 w4) (fun d5 => gb (f_X3_at 8 (d5 4) v1) (fun r6 => gb (f_X3_put 64 (d5 2) (v2 + v4) r6) (fun w7 => glet (va_up d5 2 w7) (fun d8 => gb (f_X3_grow 8 (d8 4) v1 1) (fun w9 => glet (va_up d8 4 w9) (fun d10 => glet (v4 + 1) (fun x11 => f_X0_addFrom_L3 v1 v2 v3 fu x11 d10)))))))))
def f_X0_addFrom (d : Nat → Nat → Int32) (v1 : Int32) (v2 : Int32) (v3 : Int32) : Option (Int32 × (Nat → Nat → Int32)) := f_X0_addFrom_L3 v1 v2 v3 gFu 0 d
set_option maxRecDepth 20000 in
theorem in_X0_addFrom : ∀ w ∈ wsX00, w ∈ wsX0_addFrom := by decide +kernel
set_option maxRecDepth 20000 in
theorem fl_X0_addFrom_29 : Cond.fieldLink RX0 29 (TX0 4).1 (TX0 4).2.1 (TX0 4).2.2.1 ∈ wsX0_addFrom := by decide +kernel
set_option maxRecDepth 20000 in
theorem fl_X0_addFrom_23 : Cond.fieldLink RX0 23 (TX0 2).1 (TX0 2).2.1 (TX0 2).2.2.1 ∈ wsX0_addFrom := by decide +kernel
set_option maxRecDepth 20000 in
theorem fl_X0_addFrom_20 : Cond.fieldLink RX0 20 (TX0 1).1 (TX0 1).2.1 (TX0 1).2.2.1 ∈ wsX0_addFrom := by decide +kernel
set_option maxHeartbeats 4000000 in
set_option maxRecDepth 100000 in
theorem cl_X0_addFrom_L3 {X : gX} {Z : gZ} {ad : Nat → Nat}  {r : Int32} {d' : Nat → Nat → Int32} (C : GC X Z cX0_addFrom 5 wsX0_addFrom RX0 rm_X0_addFrom 21 ad) (e : gEI X Z 21 ad .int r (dskE Z.2.1 ad d')) (v1 : Int32) (v2 : Int32) (v3 : Int32) : ∀ (fu : Nat) (v4 : Int32) (d : Nat → Nat → Int32) (h : f_X0_addFrom_L3 v1 v2 v3 fu v4 d = some (r, d')), GG X Z 5 21 ad (dskE Z.2.1 ad d) 3 [(0, .ref (ad 0)), (1, .int v1), (2, .int v2), (3, .int v3), (4, .int v4)] [] := by
  intro fu
  induction fu with
  | zero => intro v4 d h; cases h
  | succ fu ih =>
    intro v4 d h
    rw [f_X0_addFrom_L3] at h
    refine g_iload C dX0_addFrom_3 4 rfl ?_
    refine g_iload_n C dX0_addFrom_5 3 rfl ?_
    refine g_icmp_ge (tgt := 71) C dX0_addFrom_6 (by decide) (fun c1 => ?_) (fun c1 => ?_)
    · replace h := gi_pos c1 h
      refine g_iload C dX0_addFrom_71 4 rfl ?_
      obtain ⟨rfl, rfl⟩ := gs2 h
      exact g_iret C e dX0_addFrom_73
    · replace h := gi_neg c1 h
      refine g_aload_n C dX0_addFrom_9 0 rfl ?_
      refine g_getf (v := .ref (ad 3)) C 0 (by decide) rfl rfl in_X0_addFrom 1 (by decide) fl_X0_addFrom_20 rfl dX0_addFrom_10 ?_
      refine g_iload_n C dX0_addFrom_13 2 rfl ?_
      refine g_iload C dX0_addFrom_14 4 rfl ?_
      refine g_iadd C dX0_addFrom_16 ?_
      refine g_bipush (v := (-5)) C dX0_addFrom_17 (by decide) ?_
      obtain ⟨r2, er2, h⟩ := gb1 h
      refine g_callVi (rest := []) C gX0_addFrom_X3_holds rfl ok_X3_holds ⟨by decide, by decide⟩ ⟨rfl, rfl⟩ 3 2 (by decide) (adc := fun i => ad (3 + i)) (fun _ _ => rfl) (dskE_row 1 (by decide)) 0 (by decide) rfl rfl (fun hI => cn_X3_holds X.2.1 Z (fun i => ad (3 + i)) hI 64 (d 1) (v2 + v4) (-5) er2) rfl dX0_addFrom_19 rfl (Nat.le_of_ble_eq_true rfl) (dskE Z.2.1 ad d) (dskE_id 1 (by decide)) ?_
      refine g_if_eq (tgt := 71) C dX0_addFrom_22 (by decide) (fun c3 => ?_) (fun c3 => ?_)
      · replace h := gi_pos c3 h
        refine g_iload C dX0_addFrom_71 4 rfl ?_
        obtain ⟨rfl, rfl⟩ := gs2 h
        exact g_iret C e dX0_addFrom_73
      · replace h := gi_neg c3 h
        refine g_aload_n C dX0_addFrom_25 0 rfl ?_
        refine g_getf (v := .ref (ad 3)) C 0 (by decide) rfl rfl in_X0_addFrom 1 (by decide) fl_X0_addFrom_20 rfl dX0_addFrom_26 ?_
        refine g_iload_n C dX0_addFrom_29 2 rfl ?_
        refine g_iload C dX0_addFrom_30 4 rfl ?_
        refine g_iadd C dX0_addFrom_32 ?_
        refine g_iload_n C dX0_addFrom_33 1 rfl ?_
        obtain ⟨w4, ew4, h⟩ := gb1 h
        obtain ⟨d5, ed5, h⟩ := gl h
        refine g_callVv (rest := []) C gX0_addFrom_X3_put rfl ok_X3_put ⟨by decide, by decide⟩ ⟨rfl, rfl⟩ 3 2 (by decide) (adc := fun i => ad (3 + i)) (fun _ _ => rfl) (dskE_row 1 (by decide)) 0 (by decide) rfl rfl (fun hI => cn_X3_put X.2.1 Z (fun i => ad (3 + i)) hI 64 (d 1) (v2 + v4) v1 ew4) rfl dX0_addFrom_34 rfl (Nat.le_of_ble_eq_true rfl) (dskE Z.2.1 ad d5) (by rw [ed5]; exact (dskE_up 1 (by decide))) ?_
        refine g_aload_n C dX0_addFrom_37 0 rfl ?_
        refine g_getf (v := .ref (ad 5)) C 0 (by decide) rfl rfl in_X0_addFrom 2 (by decide) fl_X0_addFrom_23 rfl dX0_addFrom_38 ?_
        refine g_iload_n C dX0_addFrom_41 2 rfl ?_
        refine g_iload C dX0_addFrom_42 4 rfl ?_
        refine g_iadd C dX0_addFrom_44 ?_
        refine g_aload_n C dX0_addFrom_45 0 rfl ?_
        refine g_getf (v := .ref (ad 9)) C 0 (by decide) rfl rfl in_X0_addFrom 4 (by decide) fl_X0_addFrom_29 rfl dX0_addFrom_46 ?_
        refine g_iload_n C dX0_addFrom_49 1 rfl ?_
        obtain ⟨r6, er6, h⟩ := gb1 h
        refine g_callVi (rest := [.int (v2 + v4), .ref (ad 5)]) C gX0_addFrom_X3_at rfl ok_X3_at ⟨by decide, by decide⟩ ⟨rfl, rfl⟩ 9 2 (by decide) (adc := fun i => ad (9 + i)) (fun _ _ => rfl) (dskE_row 4 (by decide)) 0 (by decide) rfl rfl (fun hI => cn_X3_at X.2.1 Z (fun i => ad (9 + i)) hI 8 (d5 4) v1 er6) rfl dX0_addFrom_50 rfl (Nat.le_of_ble_eq_true rfl) (dskE Z.2.1 ad d5) (dskE_id 4 (by decide)) ?_
        obtain ⟨w7, ew7, h⟩ := gb1 h
        obtain ⟨d8, ed8, h⟩ := gl h
        refine g_callVv (rest := []) C gX0_addFrom_X3_put rfl ok_X3_put ⟨by decide, by decide⟩ ⟨rfl, rfl⟩ 5 2 (by decide) (adc := fun i => ad (5 + i)) (fun _ _ => rfl) (dskE_row 2 (by decide)) 0 (by decide) rfl rfl (fun hI => cn_X3_put X.2.1 Z (fun i => ad (5 + i)) hI 64 (d5 2) (v2 + v4) r6 ew7) rfl dX0_addFrom_53 rfl (Nat.le_of_ble_eq_true rfl) (dskE Z.2.1 ad d8) (by rw [ed8]; exact (dskE_up 2 (by decide))) ?_
        refine g_aload_n C dX0_addFrom_56 0 rfl ?_
        refine g_getf (v := .ref (ad 9)) C 0 (by decide) rfl rfl in_X0_addFrom 4 (by decide) fl_X0_addFrom_29 rfl dX0_addFrom_57 ?_
        refine g_iload_n C dX0_addFrom_60 1 rfl ?_
        refine g_iconst (v := 1) C dX0_addFrom_61 (by decide) ?_
        obtain ⟨w9, ew9, h⟩ := gb1 h
        obtain ⟨d10, ed10, h⟩ := gl h
        refine g_callVv (rest := []) C gX0_addFrom_X3_grow rfl ok_X3_grow ⟨by decide, by decide⟩ ⟨rfl, rfl⟩ 9 2 (by decide) (adc := fun i => ad (9 + i)) (fun _ _ => rfl) (dskE_row 4 (by decide)) 0 (by decide) rfl rfl (fun hI => cn_X3_grow X.2.1 Z (fun i => ad (9 + i)) hI 8 (d8 4) v1 1 ew9) rfl dX0_addFrom_62 rfl (Nat.le_of_ble_eq_true rfl) (dskE Z.2.1 ad d10) (by rw [ed10]; exact (dskE_up 4 (by decide))) ?_
        obtain ⟨x11, ex11, h⟩ := gl h
        refine g_iinc (v := x11) C dX0_addFrom_65 4 rfl (by rw [ex11]; rfl) (by decide) [(4, .int x11), (0, .ref (ad 0)), (1, .int v1), (2, .int v2), (3, .int v3)] rfl ?_
        refine g_goto (tgt := 3) C dX0_addFrom_68 (by decide) ?_
        exact g_sub [1, 2, 3, 4, 0] rfl (ih x11 d10 h)
set_option maxHeartbeats 4000000 in
set_option maxRecDepth 100000 in
theorem cn_X0_addFrom (l : Launch) (Z : gZ) (ad : Nat → Nat) (hI : gInj 21 ad) (d : Nat → Nat → Int32) (v1 : Int32) (v2 : Int32) (v3 : Int32) {r : Int32} {d' : Nat → Nat → Int32} (h : f_X0_addFrom d v1 v2 v3 = some (r, d')) : gI l yX0_addFrom wsX0_addFrom rm_X0_addFrom Z 21 ad [.ref (ad 0), .int v1, .int v2, .int v3] (dskE Z.2.1 ad d) r (dskE Z.2.1 ad d') := by
  refine g_entryI (cc := cX0_addFrom) (maxL := 5) (by decide +kernel) rfl hI (Nat.le_of_ble_eq_true rfl) (fun X C e => ?_)
  unfold f_X0_addFrom at h
  show GG X Z 5 21 ad (dskE Z.2.1 ad d) 0 [(0, .ref (ad 0)), (1, .int v1), (2, .int v2), (3, .int v3)] []
  refine g_iconst (v := 0) C dX0_addFrom_0 (by decide) ?_
  refine g_istore C dX0_addFrom_1 (by decide) [(4, .int 0), (0, .ref (ad 0)), (1, .int v1), (2, .int v2), (3, .int v3)] rfl ?_
  exact g_sub [1, 2, 3, 4, 0] rfl (cl_X0_addFrom_L3 C e v1 v2 v3 gFu 0 d h)
abbrev rm_X0_runFrom : Room := ({ frames := 1, cells := 0, slots := 0, locals := 22 } : Room)
def f_X0_runFrom_L19 (d : Nat → Nat → Int32) (v1 : Int32) : Nat → Int32 → Option Int32
  | 0, _ => none
  | fu + 1, v2 => if 64 ≤ v2 then some v2 else gb (f_X3_holds 64 (d 1) (v1 + v2) (-5)) (fun r4 => if r4 = 0 then some v2 else glet (v2 + 1) (fun x6 => f_X0_runFrom_L19 d v1 fu x6))
def f_X0_runFrom (d : Nat → Nat → Int32) (v1 : Int32) : Option Int32 := gb (f_X3_holds 64 (d 1) (v1 - 1) (-5)) (fun r1 => if r1 = 0 then f_X0_runFrom_L19 d v1 gFu 0 else some 0)
set_option maxRecDepth 20000 in
theorem in_X0_runFrom : ∀ w ∈ wsX00, w ∈ wsX0_runFrom := by decide +kernel
set_option maxRecDepth 20000 in
theorem fl_X0_runFrom_20 : Cond.fieldLink RX0 20 (TX0 1).1 (TX0 1).2.1 (TX0 1).2.2.1 ∈ wsX0_runFrom := by decide +kernel
set_option maxHeartbeats 4000000 in
set_option maxRecDepth 100000 in
theorem cl_X0_runFrom_L19 {X : gX} {Z : gZ} {ad : Nat → Nat} {d : Nat → Nat → Int32} {r : Int32} (C : GC X Z cX0_runFrom 3 wsX0_runFrom RX0 rm_X0_runFrom 21 ad) (e : gEI X Z 21 ad .int r (dskE Z.2.1 ad d)) (v1 : Int32) : ∀ (fu : Nat) (v2 : Int32) (h : f_X0_runFrom_L19 d v1 fu v2 = some r), GG X Z 3 21 ad (dskE Z.2.1 ad d) 19 [(0, .ref (ad 0)), (1, .int v1), (2, .int v2)] [] := by
  intro fu
  induction fu with
  | zero => intro v2 h; cases h
  | succ fu ih =>
    intro v2 h
    rw [f_X0_runFrom_L19] at h
    refine g_iload_n C dX0_runFrom_19 2 rfl ?_
    refine g_bipush (v := 64) C dX0_runFrom_20 (by decide) ?_
    refine g_icmp_ge (tgt := 46) C dX0_runFrom_22 (by decide) (fun c3 => ?_) (fun c3 => ?_)
    · replace h := gi_pos c3 h
      refine g_iload_n C dX0_runFrom_46 2 rfl ?_
      obtain rfl := gs1 h
      exact g_iret C e dX0_runFrom_47
    · replace h := gi_neg c3 h
      refine g_aload_n C dX0_runFrom_25 0 rfl ?_
      refine g_getf (v := .ref (ad 3)) C 0 (by decide) rfl rfl in_X0_runFrom 1 (by decide) fl_X0_runFrom_20 rfl dX0_runFrom_26 ?_
      refine g_iload_n C dX0_runFrom_29 1 rfl ?_
      refine g_iload_n C dX0_runFrom_30 2 rfl ?_
      refine g_iadd C dX0_runFrom_31 ?_
      refine g_bipush (v := (-5)) C dX0_runFrom_32 (by decide) ?_
      obtain ⟨r4, er4, h⟩ := gb1 h
      refine g_callVi (rest := []) C gX0_runFrom_X3_holds rfl ok_X3_holds ⟨by decide, by decide⟩ ⟨rfl, rfl⟩ 3 2 (by decide) (adc := fun i => ad (3 + i)) (fun _ _ => rfl) (dskE_row 1 (by decide)) 0 (by decide) rfl rfl (fun hI => cn_X3_holds X.2.1 Z (fun i => ad (3 + i)) hI 64 (d 1) (v1 + v2) (-5) er4) rfl dX0_runFrom_34 rfl (Nat.le_of_ble_eq_true rfl) (dskE Z.2.1 ad d) (dskE_id 1 (by decide)) ?_
      refine g_if_eq (tgt := 46) C dX0_runFrom_37 (by decide) (fun c5 => ?_) (fun c5 => ?_)
      · replace h := gi_pos c5 h
        refine g_iload_n C dX0_runFrom_46 2 rfl ?_
        obtain rfl := gs1 h
        exact g_iret C e dX0_runFrom_47
      · replace h := gi_neg c5 h
        obtain ⟨x6, ex6, h⟩ := gl h
        refine g_iinc (v := x6) C dX0_runFrom_40 2 rfl (by rw [ex6]; rfl) (by decide) [(2, .int x6), (0, .ref (ad 0)), (1, .int v1)] rfl ?_
        refine g_goto (tgt := 19) C dX0_runFrom_43 (by decide) ?_
        exact g_sub [1, 2, 0] rfl (ih x6 h)
set_option maxHeartbeats 4000000 in
set_option maxRecDepth 100000 in
theorem cn_X0_runFrom (l : Launch) (Z : gZ) (ad : Nat → Nat) (hI : gInj 21 ad) (d : Nat → Nat → Int32) (v1 : Int32) {r : Int32} (h : f_X0_runFrom d v1 = some r) : gI l yX0_runFrom wsX0_runFrom rm_X0_runFrom Z 21 ad [.ref (ad 0), .int v1] (dskE Z.2.1 ad d) r (dskE Z.2.1 ad d) := by
  refine g_entryI (cc := cX0_runFrom) (maxL := 3) (by decide +kernel) rfl hI (Nat.le_of_ble_eq_true rfl) (fun X C e => ?_)
  unfold f_X0_runFrom at h
  show GG X Z 3 21 ad (dskE Z.2.1 ad d) 0 [(0, .ref (ad 0)), (1, .int v1)] []
  refine g_aload_n C dX0_runFrom_0 0 rfl ?_
  refine g_getf (v := .ref (ad 3)) C 0 (by decide) rfl rfl in_X0_runFrom 1 (by decide) fl_X0_runFrom_20 rfl dX0_runFrom_1 ?_
  refine g_iload_n C dX0_runFrom_4 1 rfl ?_
  refine g_iconst (v := 1) C dX0_runFrom_5 (by decide) ?_
  refine g_isub C dX0_runFrom_6 ?_
  refine g_bipush (v := (-5)) C dX0_runFrom_7 (by decide) ?_
  obtain ⟨r1, er1, h⟩ := gb1 h
  refine g_callVi (rest := []) C gX0_runFrom_X3_holds rfl ok_X3_holds ⟨by decide, by decide⟩ ⟨rfl, rfl⟩ 3 2 (by decide) (adc := fun i => ad (3 + i)) (fun _ _ => rfl) (dskE_row 1 (by decide)) 0 (by decide) rfl rfl (fun hI => cn_X3_holds X.2.1 Z (fun i => ad (3 + i)) hI 64 (d 1) (v1 - 1) (-5) er1) rfl dX0_runFrom_9 rfl (Nat.le_of_ble_eq_true rfl) (dskE Z.2.1 ad d) (dskE_id 1 (by decide)) ?_
  refine g_if_eq (tgt := 17) C dX0_runFrom_12 (by decide) (fun c2 => ?_) (fun c2 => ?_)
  · replace h := gi_pos c2 h
    refine g_iconst (v := 0) C dX0_runFrom_17 (by decide) ?_
    refine g_istore_n C dX0_runFrom_18 (by decide) [(2, .int 0), (0, .ref (ad 0)), (1, .int v1)] rfl ?_
    exact g_sub [1, 2, 0] rfl (cl_X0_runFrom_L19 C e v1 gFu 0 h)
  · replace h := gi_neg c2 h
    refine g_iconst (v := 0) C dX0_runFrom_15 (by decide) ?_
    obtain rfl := gs1 h
    exact g_iret C e dX0_runFrom_16
abbrev rm_X0_isBetter : Room := ({ frames := 1, cells := 0, slots := 0, locals := 22 } : Room)
def f_X0_isBetter (d : Nat → Nat → Int32) (v1 : Int32) (v2 : Int32) (v3 : Int32) : Option Int32 := if v3 ≤ v2 then gb (f_X3_holds 2 (d 8) 1 0) (fun r2 => if r2 = 0 then some 0 else if v1 < v3 then some 0 else if v2 ≤ v1 then some 0 else some 1) else if v1 ≤ v2 then some 0 else some 1
set_option maxRecDepth 20000 in
theorem in_X0_isBetter : ∀ w ∈ wsX00, w ∈ wsX0_isBetter := by decide +kernel
set_option maxRecDepth 20000 in
theorem fl_X0_isBetter_41 : Cond.fieldLink RX0 41 (TX0 8).1 (TX0 8).2.1 (TX0 8).2.2.1 ∈ wsX0_isBetter := by decide +kernel
set_option maxHeartbeats 4000000 in
set_option maxRecDepth 100000 in
theorem cn_X0_isBetter (l : Launch) (Z : gZ) (ad : Nat → Nat) (hI : gInj 21 ad) (d : Nat → Nat → Int32) (v1 : Int32) (v2 : Int32) (v3 : Int32) {r : Int32} (h : f_X0_isBetter d v1 v2 v3 = some r) : gI l yX0_isBetter wsX0_isBetter rm_X0_isBetter Z 21 ad [.ref (ad 0), .int v1, .int v2, .int v3] (dskE Z.2.1 ad d) r (dskE Z.2.1 ad d) := by
  refine g_entryI (cc := cX0_isBetter) (maxL := 4) (by decide +kernel) rfl hI (Nat.le_of_ble_eq_true rfl) (fun X C e => ?_)
  unfold f_X0_isBetter at h
  show GG X Z 4 21 ad (dskE Z.2.1 ad d) 0 [(0, .ref (ad 0)), (1, .int v1), (2, .int v2), (3, .int v3)] []
  refine g_iload_n C dX0_isBetter_0 2 rfl ?_
  refine g_iload_n C dX0_isBetter_1 3 rfl ?_
  refine g_icmp_ge (tgt := 16) C dX0_isBetter_2 (by decide) (fun c1 => ?_) (fun c1 => ?_)
  · replace h := gi_pos c1 h
    refine g_aload_n C dX0_isBetter_16 0 rfl ?_
    refine g_getf (v := .ref (ad 17)) C 0 (by decide) rfl rfl in_X0_isBetter 8 (by decide) fl_X0_isBetter_41 rfl dX0_isBetter_17 ?_
    refine g_iconst (v := 1) C dX0_isBetter_20 (by decide) ?_
    refine g_iconst (v := 0) C dX0_isBetter_21 (by decide) ?_
    obtain ⟨r2, er2, h⟩ := gb1 h
    refine g_callVi (rest := []) C gX0_isBetter_X3_holds rfl ok_X3_holds ⟨by decide, by decide⟩ ⟨rfl, rfl⟩ 17 2 (by decide) (adc := fun i => ad (17 + i)) (fun _ _ => rfl) (dskE_row 8 (by decide)) 0 (by decide) rfl rfl (fun hI => cn_X3_holds X.2.1 Z (fun i => ad (17 + i)) hI 2 (d 8) 1 0 er2) rfl dX0_isBetter_22 rfl (Nat.le_of_ble_eq_true rfl) (dskE Z.2.1 ad d) (dskE_id 8 (by decide)) ?_
    refine g_if_eq (tgt := 42) C dX0_isBetter_25 (by decide) (fun c3 => ?_) (fun c3 => ?_)
    · replace h := gi_pos c3 h
      refine g_iconst (v := 0) C dX0_isBetter_42 (by decide) ?_
      obtain rfl := gs1 h
      exact g_zret C e rfl dX0_isBetter_43
    · replace h := gi_neg c3 h
      refine g_iload_n C dX0_isBetter_28 1 rfl ?_
      refine g_iload_n C dX0_isBetter_29 3 rfl ?_
      refine g_icmp_lt (tgt := 42) C dX0_isBetter_30 (by decide) (fun c4 => ?_) (fun c4 => ?_)
      · replace h := gi_pos c4 h
        refine g_iconst (v := 0) C dX0_isBetter_42 (by decide) ?_
        obtain rfl := gs1 h
        exact g_zret C e rfl dX0_isBetter_43
      · replace h := gi_neg c4 h
        refine g_iload_n C dX0_isBetter_33 1 rfl ?_
        refine g_iload_n C dX0_isBetter_34 2 rfl ?_
        refine g_icmp_ge (tgt := 42) C dX0_isBetter_35 (by decide) (fun c5 => ?_) (fun c5 => ?_)
        · replace h := gi_pos c5 h
          refine g_iconst (v := 0) C dX0_isBetter_42 (by decide) ?_
          obtain rfl := gs1 h
          exact g_zret C e rfl dX0_isBetter_43
        · replace h := gi_neg c5 h
          refine g_iconst (v := 1) C dX0_isBetter_38 (by decide) ?_
          refine g_goto (tgt := 43) C dX0_isBetter_39 (by decide) ?_
          obtain rfl := gs1 h
          exact g_zret C e rfl dX0_isBetter_43
  · replace h := gi_neg c1 h
    refine g_iload_n C dX0_isBetter_5 1 rfl ?_
    refine g_iload_n C dX0_isBetter_6 2 rfl ?_
    refine g_icmp_le (tgt := 14) C dX0_isBetter_7 (by decide) (fun c6 => ?_) (fun c6 => ?_)
    · replace h := gi_pos c6 h
      refine g_iconst (v := 0) C dX0_isBetter_14 (by decide) ?_
      obtain rfl := gs1 h
      exact g_zret C e rfl dX0_isBetter_15
    · replace h := gi_neg c6 h
      refine g_iconst (v := 1) C dX0_isBetter_10 (by decide) ?_
      refine g_goto (tgt := 15) C dX0_isBetter_11 (by decide) ?_
      obtain rfl := gs1 h
      exact g_zret C e rfl dX0_isBetter_15
abbrev rm_X0_chosenRun : Room := ({ frames := 2, cells := 0, slots := 0, locals := 45 } : Room)
def f_X0_chosenRun_L8 (d : Nat → Nat → Int32) (v1 : Int32) : Nat → Int32 → Int32 → Int32 → Option Int32
  | 0, _, _, _ => none
  | fu + 1, v2, v3, v4 => if 64 ≤ v4 then some v2 else gb (f_X0_runFrom d v4) (fun r2 => gb (f_X0_isBetter d r2 v3 v1) (fun r3 => if r3 = 0 then glet (v4 + 1) (fun x5 => f_X0_chosenRun_L8 d v1 fu v2 v3 x5) else glet (v4 + 1) (fun x6 => f_X0_chosenRun_L8 d v1 fu v4 r2 x6)))
def f_X0_chosenRun (d : Nat → Nat → Int32) (v1 : Int32) : Option Int32 := f_X0_chosenRun_L8 d v1 gFu (-5) 0 0
set_option maxHeartbeats 4000000 in
set_option maxRecDepth 100000 in
theorem cl_X0_chosenRun_L8 {X : gX} {Z : gZ} {ad : Nat → Nat} {d : Nat → Nat → Int32} {r : Int32} (C : GC X Z cX0_chosenRun 6 wsX0_chosenRun RX0 rm_X0_chosenRun 21 ad) (e : gEI X Z 21 ad .int r (dskE Z.2.1 ad d)) (v1 : Int32) : ∀ (fu : Nat) (v2 : Int32) (v3 : Int32) (v4 : Int32) (h : f_X0_chosenRun_L8 d v1 fu v2 v3 v4 = some r), GG X Z 6 21 ad (dskE Z.2.1 ad d) 8 [(0, .ref (ad 0)), (1, .int v1), (2, .int v2), (3, .int v3), (4, .int v4)] [] := by
  intro fu
  induction fu with
  | zero => intro v2 v3 v4 h; cases h
  | succ fu ih =>
    intro v2 v3 v4 h
    rw [f_X0_chosenRun_L8] at h
    refine g_iload C dX0_chosenRun_8 4 rfl ?_
    refine g_bipush (v := 64) C dX0_chosenRun_10 (by decide) ?_
    refine g_icmp_ge (tgt := 46) C dX0_chosenRun_12 (by decide) (fun c1 => ?_) (fun c1 => ?_)
    · replace h := gi_pos c1 h
      refine g_iload_n C dX0_chosenRun_46 2 rfl ?_
      obtain rfl := gs1 h
      exact g_iret C e dX0_chosenRun_47
    · replace h := gi_neg c1 h
      refine g_aload_n C dX0_chosenRun_15 0 rfl ?_
      refine g_iload C dX0_chosenRun_16 4 rfl ?_
      obtain ⟨r2, er2, h⟩ := gb1 h
      refine g_callWi (rest := []) C gX0_chosenRun_X0_runFrom rfl ok_X0_runFrom ⟨by decide, by decide⟩ ⟨rfl, rfl⟩ 0 (by decide) rfl rfl (fun hI => cn_X0_runFrom X.2.1 Z ad hI d v4 er2) rfl dX0_chosenRun_18 rfl (Nat.le_of_ble_eq_true rfl) ?_
      refine g_istore C dX0_chosenRun_21 (by decide) [(5, .int r2), (0, .ref (ad 0)), (1, .int v1), (2, .int v2), (3, .int v3), (4, .int v4)] rfl ?_
      refine g_aload_n C dX0_chosenRun_23 1 rfl ?_
      refine g_iload C dX0_chosenRun_24 0 rfl ?_
      refine g_iload_n C dX0_chosenRun_26 4 rfl ?_
      refine g_iload_n C dX0_chosenRun_27 2 rfl ?_
      obtain ⟨r3, er3, h⟩ := gb1 h
      refine g_callWi (rest := []) C gX0_chosenRun_X0_isBetter rfl ok_X0_isBetter ⟨by decide, by decide⟩ ⟨rfl, rfl⟩ 0 (by decide) rfl rfl (fun hI => cn_X0_isBetter X.2.1 Z ad hI d r2 v3 v1 er3) rfl dX0_chosenRun_28 rfl (Nat.le_of_ble_eq_true rfl) ?_
      refine g_if_eq (tgt := 40) C dX0_chosenRun_31 (by decide) (fun c4 => ?_) (fun c4 => ?_)
      · replace h := gi_pos c4 h
        obtain ⟨x5, ex5, h⟩ := gl h
        refine g_iinc (v := x5) C dX0_chosenRun_40 5 rfl (by rw [ex5]; rfl) (by decide) [(4, .int x5), (5, .int r2), (0, .ref (ad 0)), (1, .int v1), (2, .int v2), (3, .int v3)] rfl ?_
        refine g_goto (tgt := 8) C dX0_chosenRun_43 (by decide) ?_
        exact g_sub [2, 3, 4, 5, 0] rfl (ih v2 v3 x5 h)
      · replace h := gi_neg c4 h
        refine g_iload C dX0_chosenRun_34 5 rfl ?_
        refine g_istore_n C dX0_chosenRun_36 (by decide) [(2, .int v4), (5, .int r2), (0, .ref (ad 0)), (1, .int v1), (3, .int v3), (4, .int v4)] rfl ?_
        refine g_iload C dX0_chosenRun_37 1 rfl ?_
        refine g_istore_n C dX0_chosenRun_39 (by decide) [(3, .int r2), (2, .int v4), (5, .int r2), (0, .ref (ad 0)), (1, .int v1), (4, .int v4)] rfl ?_
        obtain ⟨x6, ex6, h⟩ := gl h
        refine g_iinc (v := x6) C dX0_chosenRun_40 5 rfl (by rw [ex6]; rfl) (by decide) [(4, .int x6), (3, .int r2), (2, .int v4), (5, .int r2), (0, .ref (ad 0)), (1, .int v1)] rfl ?_
        refine g_goto (tgt := 8) C dX0_chosenRun_43 (by decide) ?_
        exact g_sub [4, 5, 2, 1, 0] rfl (ih v4 r2 x6 h)
set_option maxHeartbeats 4000000 in
set_option maxRecDepth 100000 in
theorem cn_X0_chosenRun (l : Launch) (Z : gZ) (ad : Nat → Nat) (hI : gInj 21 ad) (d : Nat → Nat → Int32) (v1 : Int32) {r : Int32} (h : f_X0_chosenRun d v1 = some r) : gI l yX0_chosenRun wsX0_chosenRun rm_X0_chosenRun Z 21 ad [.ref (ad 0), .int v1] (dskE Z.2.1 ad d) r (dskE Z.2.1 ad d) := by
  refine g_entryI (cc := cX0_chosenRun) (maxL := 6) (by decide +kernel) rfl hI (Nat.le_of_ble_eq_true rfl) (fun X C e => ?_)
  unfold f_X0_chosenRun at h
  show GG X Z 6 21 ad (dskE Z.2.1 ad d) 0 [(0, .ref (ad 0)), (1, .int v1)] []
  refine g_bipush (v := (-5)) C dX0_chosenRun_0 (by decide) ?_
  refine g_istore_n C dX0_chosenRun_2 (by decide) [(2, .int (-5)), (0, .ref (ad 0)), (1, .int v1)] rfl ?_
  refine g_iconst (v := 0) C dX0_chosenRun_3 (by decide) ?_
  refine g_istore_n C dX0_chosenRun_4 (by decide) [(3, .int 0), (2, .int (-5)), (0, .ref (ad 0)), (1, .int v1)] rfl ?_
  refine g_iconst (v := 0) C dX0_chosenRun_5 (by decide) ?_
  refine g_istore C dX0_chosenRun_6 (by decide) [(4, .int 0), (3, .int 0), (2, .int (-5)), (0, .ref (ad 0)), (1, .int v1)] rfl ?_
  exact g_sub [3, 4, 2, 1, 0] rfl (cl_X0_chosenRun_L8 C e v1 gFu (-5) 0 0 h)
abbrev rm_X0_lengthen : Room := ({ frames := 3, cells := 0, slots := 0, locals := 70 } : Room)
def f_X0_lengthen_L87 (v1 : Int32) (v2 : Int32) (v3 : Int32) (v4 : Int32) (v5 : Int32) : Nat → Int32 → Int32 → (Nat → Nat → Int32) → Option ((Nat → Nat → Int32))
  | 0, _, _, _ => none
  | fu + 1, v6, v7, d => if 64 ≤ v7 then if v5 ≤ v2 then some d else glet (if 16 < (2 * v3) then 16 else (2 * v3)) (fun x11 => gb (f_X3_put 8 (d 7) v1 x11) (fun w12 => glet (va_up d 7 w12) (fun d13 => some d13))) else if v6 ≤ 0 then if v5 ≤ v2 then some d else glet (if 16 < (2 * v3) then 16 else (2 * v3)) (fun x16 => gb (f_X3_put 8 (d 7) v1 x16) (fun w17 => glet (va_up d 7 w17) (fun d18 => some d18))) else gb (f_X0_chosenRun d v6) (fun r19 => gbb2 (f_X0_addFrom d v1 r19 v6) (fun r20 d21 => glet (v6 - r20) (fun x22 => glet (v7 + 1) (fun x23 => f_X0_lengthen_L87 v1 v2 v3 v4 v5 fu x22 x23 d21))))
def f_X0_lengthen (d : Nat → Nat → Int32) (v1 : Int32) (v2 : Int32) : Option ((Nat → Nat → Int32)) := gb (f_X3_at 8 (d 7) v1) (fun r1 => gb (f_X3_at 2 (d 8) 0) (fun r2 => glet (if r2 < r1 then r2 else r1) (fun x3 => glet (v2 + x3) (fun x4 => gb (f_X0_freeBlocks d) (fun r5 => glet (if r5 < x4 then r5 else x4) (fun x6 => gb (f_X3_at 8 (d 4) v1) (fun r7 => if r7 ≤ 0 then f_X0_lengthen_L87 v1 v2 r1 x4 x6 gFu x6 0 d else gb (f_X3_at 8 (d 4) v1) (fun r24 => gb (f_X0_blockAt d v1 (r24 - 1)) (fun r25 => gbb2 (f_X0_addFrom d v1 (r25 + 1) x6) (fun r26 d27 => glet (x6 - r26) (fun x28 => f_X0_lengthen_L87 v1 v2 r1 x4 x6 gFu x28 0 d27)))))))))))
set_option maxRecDepth 20000 in
theorem mm_X0_lengthen_98_1 : Cond.methodLink RX0 98 Lib.Math.min.name ∈ wsX0_lengthen := by decide +kernel
set_option maxRecDepth 20000 in
theorem mm_X0_lengthen_98_2 : Cond.static Lib.Math.min.name ∈ wsX0_lengthen := by decide +kernel
set_option maxRecDepth 20000 in
theorem mm_X0_lengthen_98_3 : Cond.initialized "java/lang/Math" ∈ wsX0_lengthen := by decide +kernel
set_option maxRecDepth 20000 in
theorem mm_X0_lengthen_98_4 : Cond.code Lib.Math.min.name Lib.Math.min.code 2 (some .int) ∈ wsX0_lengthen := by decide +kernel
set_option maxRecDepth 20000 in
theorem in_X0_lengthen : ∀ w ∈ wsX00, w ∈ wsX0_lengthen := by decide +kernel
set_option maxRecDepth 20000 in
theorem fl_X0_lengthen_38 : Cond.fieldLink RX0 38 (TX0 7).1 (TX0 7).2.1 (TX0 7).2.2.1 ∈ wsX0_lengthen := by decide +kernel
set_option maxRecDepth 20000 in
theorem fl_X0_lengthen_29 : Cond.fieldLink RX0 29 (TX0 4).1 (TX0 4).2.1 (TX0 4).2.2.1 ∈ wsX0_lengthen := by decide +kernel
set_option maxRecDepth 20000 in
theorem fl_X0_lengthen_41 : Cond.fieldLink RX0 41 (TX0 8).1 (TX0 8).2.1 (TX0 8).2.2.1 ∈ wsX0_lengthen := by decide +kernel
set_option maxHeartbeats 4000000 in
set_option maxRecDepth 100000 in
theorem cl_X0_lengthen_L87 {X : gX} {Z : gZ} {ad : Nat → Nat}  {d' : Nat → Nat → Int32} (C : GC X Z cX0_lengthen 8 wsX0_lengthen RX0 rm_X0_lengthen 21 ad) (e : gEV X Z 21 ad (dskE Z.2.1 ad d')) (v1 : Int32) (v2 : Int32) (v3 : Int32) (v4 : Int32) (v5 : Int32) : ∀ (fu : Nat) (v6 : Int32) (v7 : Int32) (d : Nat → Nat → Int32) (h : f_X0_lengthen_L87 v1 v2 v3 v4 v5 fu v6 v7 d = some d'), GG X Z 8 21 ad (dskE Z.2.1 ad d) 87 [(0, .ref (ad 0)), (1, .int v1), (2, .int v2), (3, .int v3), (4, .int v4), (5, .int v5), (6, .int v6), (7, .int v7)] [] := by
  intro fu
  induction fu with
  | zero => intro v6 v7 d h; cases h
  | succ fu ih =>
    intro v6 v7 d h
    rw [f_X0_lengthen_L87] at h
    refine g_iload C dX0_lengthen_87 7 rfl ?_
    refine g_bipush (v := 64) C dX0_lengthen_89 (by decide) ?_
    refine g_icmp_ge (tgt := 123) C dX0_lengthen_91 (by decide) (fun c9 => ?_) (fun c9 => ?_)
    · replace h := gi_pos c9 h
      refine g_iload C dX0_lengthen_123 5 rfl ?_
      refine g_iload_n C dX0_lengthen_125 2 rfl ?_
      refine g_icmp_le (tgt := 145) C dX0_lengthen_126 (by decide) (fun c10 => ?_) (fun c10 => ?_)
      · replace h := gi_pos c10 h
        obtain rfl := gs1 h
        exact g_vret C e dX0_lengthen_145
      · replace h := gi_neg c10 h
        refine g_aload_n C dX0_lengthen_129 0 rfl ?_
        refine g_getf (v := .ref (ad 15)) C 0 (by decide) rfl rfl in_X0_lengthen 7 (by decide) fl_X0_lengthen_38 rfl dX0_lengthen_130 ?_
        refine g_iload_n C dX0_lengthen_133 1 rfl ?_
        refine g_iconst (v := 2) C dX0_lengthen_134 (by decide) ?_
        refine g_iload_n C dX0_lengthen_135 3 rfl ?_
        refine g_imul C dX0_lengthen_136 ?_
        refine g_bipush (v := 16) C dX0_lengthen_137 (by decide) ?_
        obtain ⟨x11, ex11, h⟩ := gl h
        refine g_mmin C mm_X0_lengthen_98_1 mm_X0_lengthen_98_2 mm_X0_lengthen_98_3 mm_X0_lengthen_98_4 (by decide) (Nat.le_of_ble_eq_true rfl) dX0_lengthen_139 ?_
        rw [← ex11]
        obtain ⟨w12, ew12, h⟩ := gb1 h
        obtain ⟨d13, ed13, h⟩ := gl h
        refine g_callVv (rest := []) C gX0_lengthen_X3_put rfl ok_X3_put ⟨by decide, by decide⟩ ⟨rfl, rfl⟩ 15 2 (by decide) (adc := fun i => ad (15 + i)) (fun _ _ => rfl) (dskE_row 7 (by decide)) 0 (by decide) rfl rfl (fun hI => cn_X3_put X.2.1 Z (fun i => ad (15 + i)) hI 8 (d 7) v1 x11 ew12) rfl dX0_lengthen_142 rfl (Nat.le_of_ble_eq_true rfl) (dskE Z.2.1 ad d13) (by rw [ed13]; exact (dskE_up 7 (by decide))) ?_
        obtain rfl := gs1 h
        exact g_vret C e dX0_lengthen_145
    · replace h := gi_neg c9 h
      refine g_iload C dX0_lengthen_94 6 rfl ?_
      refine g_if_le (tgt := 123) C dX0_lengthen_96 (by decide) (fun c14 => ?_) (fun c14 => ?_)
      · replace h := gi_pos c14 h
        refine g_iload C dX0_lengthen_123 5 rfl ?_
        refine g_iload_n C dX0_lengthen_125 2 rfl ?_
        refine g_icmp_le (tgt := 145) C dX0_lengthen_126 (by decide) (fun c15 => ?_) (fun c15 => ?_)
        · replace h := gi_pos c15 h
          obtain rfl := gs1 h
          exact g_vret C e dX0_lengthen_145
        · replace h := gi_neg c15 h
          refine g_aload_n C dX0_lengthen_129 0 rfl ?_
          refine g_getf (v := .ref (ad 15)) C 0 (by decide) rfl rfl in_X0_lengthen 7 (by decide) fl_X0_lengthen_38 rfl dX0_lengthen_130 ?_
          refine g_iload_n C dX0_lengthen_133 1 rfl ?_
          refine g_iconst (v := 2) C dX0_lengthen_134 (by decide) ?_
          refine g_iload_n C dX0_lengthen_135 3 rfl ?_
          refine g_imul C dX0_lengthen_136 ?_
          refine g_bipush (v := 16) C dX0_lengthen_137 (by decide) ?_
          obtain ⟨x16, ex16, h⟩ := gl h
          refine g_mmin C mm_X0_lengthen_98_1 mm_X0_lengthen_98_2 mm_X0_lengthen_98_3 mm_X0_lengthen_98_4 (by decide) (Nat.le_of_ble_eq_true rfl) dX0_lengthen_139 ?_
          rw [← ex16]
          obtain ⟨w17, ew17, h⟩ := gb1 h
          obtain ⟨d18, ed18, h⟩ := gl h
          refine g_callVv (rest := []) C gX0_lengthen_X3_put rfl ok_X3_put ⟨by decide, by decide⟩ ⟨rfl, rfl⟩ 15 2 (by decide) (adc := fun i => ad (15 + i)) (fun _ _ => rfl) (dskE_row 7 (by decide)) 0 (by decide) rfl rfl (fun hI => cn_X3_put X.2.1 Z (fun i => ad (15 + i)) hI 8 (d 7) v1 x16 ew17) rfl dX0_lengthen_142 rfl (Nat.le_of_ble_eq_true rfl) (dskE Z.2.1 ad d18) (by rw [ed18]; exact (dskE_up 7 (by decide))) ?_
          obtain rfl := gs1 h
          exact g_vret C e dX0_lengthen_145
      · replace h := gi_neg c14 h
        refine g_iload C dX0_lengthen_99 6 rfl ?_
        refine g_aload_n C dX0_lengthen_101 0 rfl ?_
        refine g_iload_n C dX0_lengthen_102 1 rfl ?_
        refine g_aload_n C dX0_lengthen_103 0 rfl ?_
        refine g_iload C dX0_lengthen_104 6 rfl ?_
        obtain ⟨r19, er19, h⟩ := gb1 h
        refine g_callWi (rest := [.int v1, .ref (ad 0), .int v6]) C gX0_lengthen_X0_chosenRun rfl ok_X0_chosenRun ⟨by decide, by decide⟩ ⟨rfl, rfl⟩ 0 (by decide) rfl rfl (fun hI => cn_X0_chosenRun X.2.1 Z ad hI d v6 er19) rfl dX0_lengthen_106 rfl (Nat.le_of_ble_eq_true rfl) ?_
        refine g_iload C dX0_lengthen_109 6 rfl ?_
        obtain ⟨r20, d21, er20, h⟩ := gb2 h
        refine g_callWi (rest := [.int v6]) C gX0_lengthen_X0_addFrom rfl ok_X0_addFrom ⟨by decide, by decide⟩ ⟨rfl, rfl⟩ 0 (by decide) rfl rfl (fun hI => cn_X0_addFrom X.2.1 Z ad hI d v1 r19 v6 er20) rfl dX0_lengthen_111 rfl (Nat.le_of_ble_eq_true rfl) ?_
        refine g_isub C dX0_lengthen_114 ?_
        obtain ⟨x22, ex22, h⟩ := gl h
        refine g_istore C dX0_lengthen_115 (by decide) [(6, .int x22), (0, .ref (ad 0)), (1, .int v1), (2, .int v2), (3, .int v3), (4, .int v4), (5, .int v5), (7, .int v7)] (by rw [ex22]; rfl) ?_
        obtain ⟨x23, ex23, h⟩ := gl h
        refine g_iinc (v := x23) C dX0_lengthen_117 7 rfl (by rw [ex23]; rfl) (by decide) [(7, .int x23), (6, .int x22), (0, .ref (ad 0)), (1, .int v1), (2, .int v2), (3, .int v3), (4, .int v4), (5, .int v5)] rfl ?_
        refine g_goto (tgt := 87) C dX0_lengthen_120 (by decide) ?_
        exact g_sub [2, 3, 4, 5, 6, 7, 1, 0] rfl (ih x22 x23 d21 h)
set_option maxHeartbeats 4000000 in
set_option maxRecDepth 100000 in
theorem cn_X0_lengthen (l : Launch) (Z : gZ) (ad : Nat → Nat) (hI : gInj 21 ad) (d : Nat → Nat → Int32) (v1 : Int32) (v2 : Int32) {d' : Nat → Nat → Int32} (h : f_X0_lengthen d v1 v2 = some d') : gV l yX0_lengthen wsX0_lengthen rm_X0_lengthen Z 21 ad [.ref (ad 0), .int v1, .int v2] (dskE Z.2.1 ad d) (dskE Z.2.1 ad d') := by
  refine g_entryV (cc := cX0_lengthen) (maxL := 8) (by decide +kernel) rfl hI (Nat.le_of_ble_eq_true rfl) (fun X C e => ?_)
  unfold f_X0_lengthen at h
  show GG X Z 8 21 ad (dskE Z.2.1 ad d) 0 [(0, .ref (ad 0)), (1, .int v1), (2, .int v2)] []
  refine g_aload_n C dX0_lengthen_0 0 rfl ?_
  refine g_getf (v := .ref (ad 15)) C 0 (by decide) rfl rfl in_X0_lengthen 7 (by decide) fl_X0_lengthen_38 rfl dX0_lengthen_1 ?_
  refine g_iload_n C dX0_lengthen_4 1 rfl ?_
  obtain ⟨r1, er1, h⟩ := gb1 h
  refine g_callVi (rest := []) C gX0_lengthen_X3_at rfl ok_X3_at ⟨by decide, by decide⟩ ⟨rfl, rfl⟩ 15 2 (by decide) (adc := fun i => ad (15 + i)) (fun _ _ => rfl) (dskE_row 7 (by decide)) 0 (by decide) rfl rfl (fun hI => cn_X3_at X.2.1 Z (fun i => ad (15 + i)) hI 8 (d 7) v1 er1) rfl dX0_lengthen_5 rfl (Nat.le_of_ble_eq_true rfl) (dskE Z.2.1 ad d) (dskE_id 7 (by decide)) ?_
  refine g_istore_n C dX0_lengthen_8 (by decide) [(3, .int r1), (0, .ref (ad 0)), (1, .int v1), (2, .int v2)] rfl ?_
  refine g_iload_n C dX0_lengthen_9 3 rfl ?_
  refine g_iload_n C dX0_lengthen_10 0 rfl ?_
  refine g_aload_n C dX0_lengthen_11 1 rfl ?_
  refine g_getf (v := .ref (ad 17)) C 0 (by decide) rfl rfl in_X0_lengthen 8 (by decide) fl_X0_lengthen_41 rfl dX0_lengthen_12 ?_
  refine g_iconst (v := 0) C dX0_lengthen_15 (by decide) ?_
  obtain ⟨r2, er2, h⟩ := gb1 h
  refine g_callVi (rest := [.int r1, .int v2]) C gX0_lengthen_X3_at rfl ok_X3_at ⟨by decide, by decide⟩ ⟨rfl, rfl⟩ 17 2 (by decide) (adc := fun i => ad (17 + i)) (fun _ _ => rfl) (dskE_row 8 (by decide)) 0 (by decide) rfl rfl (fun hI => cn_X3_at X.2.1 Z (fun i => ad (17 + i)) hI 2 (d 8) 0 er2) rfl dX0_lengthen_16 rfl (Nat.le_of_ble_eq_true rfl) (dskE Z.2.1 ad d) (dskE_id 8 (by decide)) ?_
  obtain ⟨x3, ex3, h⟩ := gl h
  refine g_mmin C mm_X0_lengthen_98_1 mm_X0_lengthen_98_2 mm_X0_lengthen_98_3 mm_X0_lengthen_98_4 (by decide) (Nat.le_of_ble_eq_true rfl) dX0_lengthen_19 ?_
  rw [← ex3]
  refine g_iadd C dX0_lengthen_22 ?_
  obtain ⟨x4, ex4, h⟩ := gl h
  refine g_istore C dX0_lengthen_23 (by decide) [(4, .int x4), (3, .int r1), (0, .ref (ad 0)), (1, .int v1), (2, .int v2)] (by rw [ex4]; rfl) ?_
  refine g_iload C dX0_lengthen_25 0 rfl ?_
  refine g_aload_n C dX0_lengthen_27 2 rfl ?_
  obtain ⟨r5, er5, h⟩ := gb1 h
  refine g_callWi (rest := [.int x4]) C gX0_lengthen_X0_freeBlocks rfl ok_X0_freeBlocks ⟨by decide, by decide⟩ ⟨rfl, rfl⟩ 0 (by decide) rfl rfl (fun hI => cn_X0_freeBlocks X.2.1 Z ad hI d  er5) rfl dX0_lengthen_28 rfl (Nat.le_of_ble_eq_true rfl) ?_
  obtain ⟨x6, ex6, h⟩ := gl h
  refine g_mmin C mm_X0_lengthen_98_1 mm_X0_lengthen_98_2 mm_X0_lengthen_98_3 mm_X0_lengthen_98_4 (by decide) (Nat.le_of_ble_eq_true rfl) dX0_lengthen_31 ?_
  rw [← ex6]
  refine g_istore C dX0_lengthen_34 (by decide) [(5, .int x6), (4, .int x4), (3, .int r1), (0, .ref (ad 0)), (1, .int v1), (2, .int v2)] rfl ?_
  refine g_iload C dX0_lengthen_36 0 rfl ?_
  refine g_istore C dX0_lengthen_38 (by decide) [(6, .int x6), (5, .int x6), (4, .int x4), (3, .int r1), (0, .ref (ad 0)), (1, .int v1), (2, .int v2)] rfl ?_
  refine g_aload_n C dX0_lengthen_40 4 rfl ?_
  refine g_getf (v := .ref (ad 9)) C 0 (by decide) rfl rfl in_X0_lengthen 4 (by decide) fl_X0_lengthen_29 rfl dX0_lengthen_41 ?_
  refine g_iload_n C dX0_lengthen_44 5 rfl ?_
  obtain ⟨r7, er7, h⟩ := gb1 h
  refine g_callVi (rest := []) C gX0_lengthen_X3_at rfl ok_X3_at ⟨by decide, by decide⟩ ⟨rfl, rfl⟩ 9 2 (by decide) (adc := fun i => ad (9 + i)) (fun _ _ => rfl) (dskE_row 4 (by decide)) 0 (by decide) rfl rfl (fun hI => cn_X3_at X.2.1 Z (fun i => ad (9 + i)) hI 8 (d 4) v1 er7) rfl dX0_lengthen_45 rfl (Nat.le_of_ble_eq_true rfl) (dskE Z.2.1 ad d) (dskE_id 4 (by decide)) ?_
  refine g_if_le (tgt := 84) C dX0_lengthen_48 (by decide) (fun c8 => ?_) (fun c8 => ?_)
  · replace h := gi_pos c8 h
    refine g_iconst (v := 0) C dX0_lengthen_84 (by decide) ?_
    refine g_istore C dX0_lengthen_85 (by decide) [(7, .int 0), (6, .int x6), (5, .int x6), (4, .int x4), (3, .int r1), (0, .ref (ad 0)), (1, .int v1), (2, .int v2)] rfl ?_
    exact g_sub [5, 6, 7, 4, 3, 2, 1, 0] rfl (cl_X0_lengthen_L87 C e v1 v2 r1 x4 x6 gFu x6 0 d h)
  · replace h := gi_neg c8 h
    refine g_aload_n C dX0_lengthen_51 4 rfl ?_
    refine g_iload_n C dX0_lengthen_52 5 rfl ?_
    refine g_aload_n C dX0_lengthen_53 4 rfl ?_
    refine g_getf (v := .ref (ad 9)) C 0 (by decide) rfl rfl in_X0_lengthen 4 (by decide) fl_X0_lengthen_29 rfl dX0_lengthen_54 ?_
    refine g_iload_n C dX0_lengthen_57 5 rfl ?_
    obtain ⟨r24, er24, h⟩ := gb1 h
    refine g_callVi (rest := [.int v1, .ref (ad 0)]) C gX0_lengthen_X3_at rfl ok_X3_at ⟨by decide, by decide⟩ ⟨rfl, rfl⟩ 9 2 (by decide) (adc := fun i => ad (9 + i)) (fun _ _ => rfl) (dskE_row 4 (by decide)) 0 (by decide) rfl rfl (fun hI => cn_X3_at X.2.1 Z (fun i => ad (9 + i)) hI 8 (d 4) v1 er24) rfl dX0_lengthen_58 rfl (Nat.le_of_ble_eq_true rfl) (dskE Z.2.1 ad d) (dskE_id 4 (by decide)) ?_
    refine g_iconst (v := 1) C dX0_lengthen_61 (by decide) ?_
    refine g_isub C dX0_lengthen_62 ?_
    obtain ⟨r25, er25, h⟩ := gb1 h
    refine g_callWi (rest := []) C gX0_lengthen_X0_blockAt rfl ok_X0_blockAt ⟨by decide, by decide⟩ ⟨rfl, rfl⟩ 0 (by decide) rfl rfl (fun hI => cn_X0_blockAt X.2.1 Z ad hI d v1 (r24 - 1) er25) rfl dX0_lengthen_63 rfl (Nat.le_of_ble_eq_true rfl) ?_
    refine g_istore C dX0_lengthen_66 (by decide) [(7, .int r25), (6, .int x6), (5, .int x6), (4, .int x4), (3, .int r1), (0, .ref (ad 0)), (1, .int v1), (2, .int v2)] rfl ?_
    refine g_iload C dX0_lengthen_68 1 rfl ?_
    refine g_aload_n C dX0_lengthen_70 5 rfl ?_
    refine g_iload_n C dX0_lengthen_71 6 rfl ?_
    refine g_iload C dX0_lengthen_72 0 rfl ?_
    refine g_iconst (v := 1) C dX0_lengthen_74 (by decide) ?_
    refine g_iadd C dX0_lengthen_75 ?_
    refine g_iload C dX0_lengthen_76 1 rfl ?_
    obtain ⟨r26, d27, er26, h⟩ := gb2 h
    refine g_callWi (rest := [.int x6]) C gX0_lengthen_X0_addFrom rfl ok_X0_addFrom ⟨by decide, by decide⟩ ⟨rfl, rfl⟩ 0 (by decide) rfl rfl (fun hI => cn_X0_addFrom X.2.1 Z ad hI d v1 (r25 + 1) x6 er26) rfl dX0_lengthen_78 rfl (Nat.le_of_ble_eq_true rfl) ?_
    refine g_isub C dX0_lengthen_81 ?_
    obtain ⟨x28, ex28, h⟩ := gl h
    refine g_istore C dX0_lengthen_82 (by decide) [(6, .int x28), (7, .int r25), (5, .int x6), (4, .int x4), (3, .int r1), (0, .ref (ad 0)), (1, .int v1), (2, .int v2)] (by rw [ex28]; rfl) ?_
    refine g_iconst (v := 0) C dX0_lengthen_84 (by decide) ?_
    refine g_istore C dX0_lengthen_85 (by decide) [(7, .int 0), (6, .int x28), (5, .int x6), (4, .int x4), (3, .int r1), (0, .ref (ad 0)), (1, .int v1), (2, .int v2)] rfl ?_
    exact g_sub [5, 6, 7, 4, 3, 2, 1, 0] rfl (cl_X0_lengthen_L87 C e v1 v2 r1 x4 x6 gFu x28 0 d27 h)
abbrev rm_X0_isPart : Room := ({ frames := 1, cells := 0, slots := 0, locals := 22 } : Room)
def f_X0_isPart (d : Nat → Nat → Int32) (v1 : Int32) (v2 : Int32) (v3 : Int32) (v4 : Int32) : Option Int32 := gb (f_X3_holds 64 (d 1) v1 v2) (fun r1 => if r1 = 0 then some 0 else gb (f_X3_at 64 (d 2) v1) (fun r3 => if r3 < v3 then some 0 else gb (f_X3_at 64 (d 2) v1) (fun r5 => if v4 ≤ r5 then some 0 else some 1)))
set_option maxRecDepth 20000 in
theorem in_X0_isPart : ∀ w ∈ wsX00, w ∈ wsX0_isPart := by decide +kernel
set_option maxRecDepth 20000 in
theorem fl_X0_isPart_23 : Cond.fieldLink RX0 23 (TX0 2).1 (TX0 2).2.1 (TX0 2).2.2.1 ∈ wsX0_isPart := by decide +kernel
set_option maxRecDepth 20000 in
theorem fl_X0_isPart_20 : Cond.fieldLink RX0 20 (TX0 1).1 (TX0 1).2.1 (TX0 1).2.2.1 ∈ wsX0_isPart := by decide +kernel
set_option maxHeartbeats 4000000 in
set_option maxRecDepth 100000 in
theorem cn_X0_isPart (l : Launch) (Z : gZ) (ad : Nat → Nat) (hI : gInj 21 ad) (d : Nat → Nat → Int32) (v1 : Int32) (v2 : Int32) (v3 : Int32) (v4 : Int32) {r : Int32} (h : f_X0_isPart d v1 v2 v3 v4 = some r) : gI l yX0_isPart wsX0_isPart rm_X0_isPart Z 21 ad [.ref (ad 0), .int v1, .int v2, .int v3, .int v4] (dskE Z.2.1 ad d) r (dskE Z.2.1 ad d) := by
  refine g_entryI (cc := cX0_isPart) (maxL := 5) (by decide +kernel) rfl hI (Nat.le_of_ble_eq_true rfl) (fun X C e => ?_)
  unfold f_X0_isPart at h
  show GG X Z 5 21 ad (dskE Z.2.1 ad d) 0 [(0, .ref (ad 0)), (1, .int v1), (2, .int v2), (3, .int v3), (4, .int v4)] []
  refine g_aload_n C dX0_isPart_0 0 rfl ?_
  refine g_getf (v := .ref (ad 3)) C 0 (by decide) rfl rfl in_X0_isPart 1 (by decide) fl_X0_isPart_20 rfl dX0_isPart_1 ?_
  refine g_iload_n C dX0_isPart_4 1 rfl ?_
  refine g_iload_n C dX0_isPart_5 2 rfl ?_
  obtain ⟨r1, er1, h⟩ := gb1 h
  refine g_callVi (rest := []) C gX0_isPart_X3_holds rfl ok_X3_holds ⟨by decide, by decide⟩ ⟨rfl, rfl⟩ 3 2 (by decide) (adc := fun i => ad (3 + i)) (fun _ _ => rfl) (dskE_row 1 (by decide)) 0 (by decide) rfl rfl (fun hI => cn_X3_holds X.2.1 Z (fun i => ad (3 + i)) hI 64 (d 1) v1 v2 er1) rfl dX0_isPart_6 rfl (Nat.le_of_ble_eq_true rfl) (dskE Z.2.1 ad d) (dskE_id 1 (by decide)) ?_
  refine g_if_eq (tgt := 41) C dX0_isPart_9 (by decide) (fun c2 => ?_) (fun c2 => ?_)
  · replace h := gi_pos c2 h
    refine g_iconst (v := 0) C dX0_isPart_41 (by decide) ?_
    obtain rfl := gs1 h
    exact g_zret C e rfl dX0_isPart_42
  · replace h := gi_neg c2 h
    refine g_aload_n C dX0_isPart_12 0 rfl ?_
    refine g_getf (v := .ref (ad 5)) C 0 (by decide) rfl rfl in_X0_isPart 2 (by decide) fl_X0_isPart_23 rfl dX0_isPart_13 ?_
    refine g_iload_n C dX0_isPart_16 1 rfl ?_
    obtain ⟨r3, er3, h⟩ := gb1 h
    refine g_callVi (rest := []) C gX0_isPart_X3_at rfl ok_X3_at ⟨by decide, by decide⟩ ⟨rfl, rfl⟩ 5 2 (by decide) (adc := fun i => ad (5 + i)) (fun _ _ => rfl) (dskE_row 2 (by decide)) 0 (by decide) rfl rfl (fun hI => cn_X3_at X.2.1 Z (fun i => ad (5 + i)) hI 64 (d 2) v1 er3) rfl dX0_isPart_17 rfl (Nat.le_of_ble_eq_true rfl) (dskE Z.2.1 ad d) (dskE_id 2 (by decide)) ?_
    refine g_iload_n C dX0_isPart_20 3 rfl ?_
    refine g_icmp_lt (tgt := 41) C dX0_isPart_21 (by decide) (fun c4 => ?_) (fun c4 => ?_)
    · replace h := gi_pos c4 h
      refine g_iconst (v := 0) C dX0_isPart_41 (by decide) ?_
      obtain rfl := gs1 h
      exact g_zret C e rfl dX0_isPart_42
    · replace h := gi_neg c4 h
      refine g_aload_n C dX0_isPart_24 0 rfl ?_
      refine g_getf (v := .ref (ad 5)) C 0 (by decide) rfl rfl in_X0_isPart 2 (by decide) fl_X0_isPart_23 rfl dX0_isPart_25 ?_
      refine g_iload_n C dX0_isPart_28 1 rfl ?_
      obtain ⟨r5, er5, h⟩ := gb1 h
      refine g_callVi (rest := []) C gX0_isPart_X3_at rfl ok_X3_at ⟨by decide, by decide⟩ ⟨rfl, rfl⟩ 5 2 (by decide) (adc := fun i => ad (5 + i)) (fun _ _ => rfl) (dskE_row 2 (by decide)) 0 (by decide) rfl rfl (fun hI => cn_X3_at X.2.1 Z (fun i => ad (5 + i)) hI 64 (d 2) v1 er5) rfl dX0_isPart_29 rfl (Nat.le_of_ble_eq_true rfl) (dskE Z.2.1 ad d) (dskE_id 2 (by decide)) ?_
      refine g_iload C dX0_isPart_32 4 rfl ?_
      refine g_icmp_ge (tgt := 41) C dX0_isPart_34 (by decide) (fun c6 => ?_) (fun c6 => ?_)
      · replace h := gi_pos c6 h
        refine g_iconst (v := 0) C dX0_isPart_41 (by decide) ?_
        obtain rfl := gs1 h
        exact g_zret C e rfl dX0_isPart_42
      · replace h := gi_neg c6 h
        refine g_iconst (v := 1) C dX0_isPart_37 (by decide) ?_
        refine g_goto (tgt := 42) C dX0_isPart_38 (by decide) ?_
        obtain rfl := gs1 h
        exact g_zret C e rfl dX0_isPart_42
abbrev rm_X0_write : Room := ({ frames := 2, cells := 0, slots := 0, locals := 46 } : Room)
def f_X0_write_L13 (v1 : Int32) (v2 : Int32) (v3 : Int32) (v4 : Int32) : Nat → Int32 → (Nat → Nat → Int32) → Option ((Nat → Nat → Int32))
  | 0, _, _ => none
  | fu + 1, v5, d => if 64 ≤ v5 then gb (f_X3_grow 8 (d 5) v1 v2) (fun w3 => glet (va_up d 5 w3) (fun d4 => gb (f_X3_grow 4 (d4 9) 0 v2) (fun w5 => glet (va_up d4 9 w5) (fun d6 => some d6)))) else gb (f_X0_isPart d v5 v1 v4 (v4 + v2)) (fun r7 => if r7 = 0 then glet (v5 + 1) (fun x9 => f_X0_write_L13 v1 v2 v3 v4 fu x9 d) else gb (f_X3_put 64 (d 0) v5 v3) (fun w10 => glet (va_up d 0 w10) (fun d11 => glet (v5 + 1) (fun x12 => f_X0_write_L13 v1 v2 v3 v4 fu x12 d11))))
def f_X0_write (d : Nat → Nat → Int32) (v1 : Int32) (v2 : Int32) (v3 : Int32) : Option ((Nat → Nat → Int32)) := gb (f_X3_at 8 (d 5) v1) (fun r1 => f_X0_write_L13 v1 v2 v3 r1 gFu 0 d)
set_option maxRecDepth 20000 in
theorem in_X0_write : ∀ w ∈ wsX00, w ∈ wsX0_write := by decide +kernel
set_option maxRecDepth 20000 in
theorem fl_X0_write_44 : Cond.fieldLink RX0 44 (TX0 9).1 (TX0 9).2.1 (TX0 9).2.2.1 ∈ wsX0_write := by decide +kernel
set_option maxRecDepth 20000 in
theorem fl_X0_write_32 : Cond.fieldLink RX0 32 (TX0 5).1 (TX0 5).2.1 (TX0 5).2.2.1 ∈ wsX0_write := by decide +kernel
set_option maxRecDepth 20000 in
theorem fl_X0_write_14 : Cond.fieldLink RX0 14 (TX0 0).1 (TX0 0).2.1 (TX0 0).2.2.1 ∈ wsX0_write := by decide +kernel
set_option maxHeartbeats 4000000 in
set_option maxRecDepth 100000 in
theorem cl_X0_write_L13 {X : gX} {Z : gZ} {ad : Nat → Nat}  {d' : Nat → Nat → Int32} (C : GC X Z cX0_write 6 wsX0_write RX0 rm_X0_write 21 ad) (e : gEV X Z 21 ad (dskE Z.2.1 ad d')) (v1 : Int32) (v2 : Int32) (v3 : Int32) (v4 : Int32) : ∀ (fu : Nat) (v5 : Int32) (d : Nat → Nat → Int32) (h : f_X0_write_L13 v1 v2 v3 v4 fu v5 d = some d'), GG X Z 6 21 ad (dskE Z.2.1 ad d) 13 [(0, .ref (ad 0)), (1, .int v1), (2, .int v2), (3, .int v3), (4, .int v4), (5, .int v5)] [] := by
  intro fu
  induction fu with
  | zero => intro v5 d h; cases h
  | succ fu ih =>
    intro v5 d h
    rw [f_X0_write_L13] at h
    refine g_iload C dX0_write_13 5 rfl ?_
    refine g_bipush (v := 64) C dX0_write_15 (by decide) ?_
    refine g_icmp_ge (tgt := 52) C dX0_write_17 (by decide) (fun c2 => ?_) (fun c2 => ?_)
    · replace h := gi_pos c2 h
      refine g_aload_n C dX0_write_52 0 rfl ?_
      refine g_getf (v := .ref (ad 11)) C 0 (by decide) rfl rfl in_X0_write 5 (by decide) fl_X0_write_32 rfl dX0_write_53 ?_
      refine g_iload_n C dX0_write_56 1 rfl ?_
      refine g_iload_n C dX0_write_57 2 rfl ?_
      obtain ⟨w3, ew3, h⟩ := gb1 h
      obtain ⟨d4, ed4, h⟩ := gl h
      refine g_callVv (rest := []) C gX0_write_X3_grow rfl ok_X3_grow ⟨by decide, by decide⟩ ⟨rfl, rfl⟩ 11 2 (by decide) (adc := fun i => ad (11 + i)) (fun _ _ => rfl) (dskE_row 5 (by decide)) 0 (by decide) rfl rfl (fun hI => cn_X3_grow X.2.1 Z (fun i => ad (11 + i)) hI 8 (d 5) v1 v2 ew3) rfl dX0_write_58 rfl (Nat.le_of_ble_eq_true rfl) (dskE Z.2.1 ad d4) (by rw [ed4]; exact (dskE_up 5 (by decide))) ?_
      refine g_aload_n C dX0_write_61 0 rfl ?_
      refine g_getf (v := .ref (ad 19)) C 0 (by decide) rfl rfl in_X0_write 9 (by decide) fl_X0_write_44 rfl dX0_write_62 ?_
      refine g_iconst (v := 0) C dX0_write_65 (by decide) ?_
      refine g_iload_n C dX0_write_66 2 rfl ?_
      obtain ⟨w5, ew5, h⟩ := gb1 h
      obtain ⟨d6, ed6, h⟩ := gl h
      refine g_callVv (rest := []) C gX0_write_X3_grow rfl ok_X3_grow ⟨by decide, by decide⟩ ⟨rfl, rfl⟩ 19 2 (by decide) (adc := fun i => ad (19 + i)) (fun _ _ => rfl) (dskE_row 9 (by decide)) 0 (by decide) rfl rfl (fun hI => cn_X3_grow X.2.1 Z (fun i => ad (19 + i)) hI 4 (d4 9) 0 v2 ew5) rfl dX0_write_67 rfl (Nat.le_of_ble_eq_true rfl) (dskE Z.2.1 ad d6) (by rw [ed6]; exact (dskE_up 9 (by decide))) ?_
      obtain rfl := gs1 h
      exact g_vret C e dX0_write_70
    · replace h := gi_neg c2 h
      refine g_aload_n C dX0_write_20 0 rfl ?_
      refine g_iload C dX0_write_21 5 rfl ?_
      refine g_iload_n C dX0_write_23 1 rfl ?_
      refine g_iload C dX0_write_24 4 rfl ?_
      refine g_iload C dX0_write_26 4 rfl ?_
      refine g_iload_n C dX0_write_28 2 rfl ?_
      refine g_iadd C dX0_write_29 ?_
      obtain ⟨r7, er7, h⟩ := gb1 h
      refine g_callWi (rest := []) C gX0_write_X0_isPart rfl ok_X0_isPart ⟨by decide, by decide⟩ ⟨rfl, rfl⟩ 0 (by decide) rfl rfl (fun hI => cn_X0_isPart X.2.1 Z ad hI d v5 v1 v4 (v4 + v2) er7) rfl dX0_write_30 rfl (Nat.le_of_ble_eq_true rfl) ?_
      refine g_if_eq (tgt := 46) C dX0_write_33 (by decide) (fun c8 => ?_) (fun c8 => ?_)
      · replace h := gi_pos c8 h
        obtain ⟨x9, ex9, h⟩ := gl h
        refine g_iinc (v := x9) C dX0_write_46 5 rfl (by rw [ex9]; rfl) (by decide) [(5, .int x9), (0, .ref (ad 0)), (1, .int v1), (2, .int v2), (3, .int v3), (4, .int v4)] rfl ?_
        refine g_goto (tgt := 13) C dX0_write_49 (by decide) ?_
        exact g_sub [1, 2, 3, 4, 5, 0] rfl (ih x9 d h)
      · replace h := gi_neg c8 h
        refine g_aload_n C dX0_write_36 0 rfl ?_
        refine g_getf (v := .ref (ad 1)) C 0 (by decide) rfl rfl in_X0_write 0 (by decide) fl_X0_write_14 rfl dX0_write_37 ?_
        refine g_iload C dX0_write_40 5 rfl ?_
        refine g_iload_n C dX0_write_42 3 rfl ?_
        obtain ⟨w10, ew10, h⟩ := gb1 h
        obtain ⟨d11, ed11, h⟩ := gl h
        refine g_callVv (rest := []) C gX0_write_X3_put rfl ok_X3_put ⟨by decide, by decide⟩ ⟨rfl, rfl⟩ 1 2 (by decide) (adc := fun i => ad (1 + i)) (fun _ _ => rfl) (dskE_row 0 (by decide)) 0 (by decide) rfl rfl (fun hI => cn_X3_put X.2.1 Z (fun i => ad (1 + i)) hI 64 (d 0) v5 v3 ew10) rfl dX0_write_43 rfl (Nat.le_of_ble_eq_true rfl) (dskE Z.2.1 ad d11) (by rw [ed11]; exact (dskE_up 0 (by decide))) ?_
        obtain ⟨x12, ex12, h⟩ := gl h
        refine g_iinc (v := x12) C dX0_write_46 5 rfl (by rw [ex12]; rfl) (by decide) [(5, .int x12), (0, .ref (ad 0)), (1, .int v1), (2, .int v2), (3, .int v3), (4, .int v4)] rfl ?_
        refine g_goto (tgt := 13) C dX0_write_49 (by decide) ?_
        exact g_sub [1, 2, 3, 4, 5, 0] rfl (ih x12 d11 h)
set_option maxHeartbeats 4000000 in
set_option maxRecDepth 100000 in
theorem cn_X0_write (l : Launch) (Z : gZ) (ad : Nat → Nat) (hI : gInj 21 ad) (d : Nat → Nat → Int32) (v1 : Int32) (v2 : Int32) (v3 : Int32) {d' : Nat → Nat → Int32} (h : f_X0_write d v1 v2 v3 = some d') : gV l yX0_write wsX0_write rm_X0_write Z 21 ad [.ref (ad 0), .int v1, .int v2, .int v3] (dskE Z.2.1 ad d) (dskE Z.2.1 ad d') := by
  refine g_entryV (cc := cX0_write) (maxL := 6) (by decide +kernel) rfl hI (Nat.le_of_ble_eq_true rfl) (fun X C e => ?_)
  unfold f_X0_write at h
  show GG X Z 6 21 ad (dskE Z.2.1 ad d) 0 [(0, .ref (ad 0)), (1, .int v1), (2, .int v2), (3, .int v3)] []
  refine g_aload_n C dX0_write_0 0 rfl ?_
  refine g_getf (v := .ref (ad 11)) C 0 (by decide) rfl rfl in_X0_write 5 (by decide) fl_X0_write_32 rfl dX0_write_1 ?_
  refine g_iload_n C dX0_write_4 1 rfl ?_
  obtain ⟨r1, er1, h⟩ := gb1 h
  refine g_callVi (rest := []) C gX0_write_X3_at rfl ok_X3_at ⟨by decide, by decide⟩ ⟨rfl, rfl⟩ 11 2 (by decide) (adc := fun i => ad (11 + i)) (fun _ _ => rfl) (dskE_row 5 (by decide)) 0 (by decide) rfl rfl (fun hI => cn_X3_at X.2.1 Z (fun i => ad (11 + i)) hI 8 (d 5) v1 er1) rfl dX0_write_5 rfl (Nat.le_of_ble_eq_true rfl) (dskE Z.2.1 ad d) (dskE_id 5 (by decide)) ?_
  refine g_istore C dX0_write_8 (by decide) [(4, .int r1), (0, .ref (ad 0)), (1, .int v1), (2, .int v2), (3, .int v3)] rfl ?_
  refine g_iconst (v := 0) C dX0_write_10 (by decide) ?_
  refine g_istore C dX0_write_11 (by decide) [(5, .int 0), (4, .int r1), (0, .ref (ad 0)), (1, .int v1), (2, .int v2), (3, .int v3)] rfl ?_
  exact g_sub [2, 3, 4, 5, 1, 0] rfl (cl_X0_write_L13 C e v1 v2 v3 r1 gFu 0 d h)
abbrev rm_X0_beginsExtent : Room := ({ frames := 1, cells := 0, slots := 0, locals := 22 } : Room)
def f_X0_beginsExtent (d : Nat → Nat → Int32) (v1 : Int32) : Option Int32 := gb (f_X3_at 64 (d 1) v1) (fun r1 => gb (f_X3_holds 64 (d 1) (v1 - 1) r1) (fun r2 => if r2 = 0 then some 1 else gb (f_X3_at 64 (d 2) v1) (fun r4 => gb (f_X3_holds 64 (d 2) (v1 - 1) (r4 - 1)) (fun r5 => if r5 = 0 then some 1 else some 0))))
set_option maxRecDepth 20000 in
theorem in_X0_beginsExtent : ∀ w ∈ wsX00, w ∈ wsX0_beginsExtent := by decide +kernel
set_option maxRecDepth 20000 in
theorem fl_X0_beginsExtent_23 : Cond.fieldLink RX0 23 (TX0 2).1 (TX0 2).2.1 (TX0 2).2.2.1 ∈ wsX0_beginsExtent := by decide +kernel
set_option maxRecDepth 20000 in
theorem fl_X0_beginsExtent_20 : Cond.fieldLink RX0 20 (TX0 1).1 (TX0 1).2.1 (TX0 1).2.2.1 ∈ wsX0_beginsExtent := by decide +kernel
set_option maxHeartbeats 4000000 in
set_option maxRecDepth 100000 in
theorem cn_X0_beginsExtent (l : Launch) (Z : gZ) (ad : Nat → Nat) (hI : gInj 21 ad) (d : Nat → Nat → Int32) (v1 : Int32) {r : Int32} (h : f_X0_beginsExtent d v1 = some r) : gI l yX0_beginsExtent wsX0_beginsExtent rm_X0_beginsExtent Z 21 ad [.ref (ad 0), .int v1] (dskE Z.2.1 ad d) r (dskE Z.2.1 ad d) := by
  refine g_entryI (cc := cX0_beginsExtent) (maxL := 2) (by decide +kernel) rfl hI (Nat.le_of_ble_eq_true rfl) (fun X C e => ?_)
  unfold f_X0_beginsExtent at h
  show GG X Z 2 21 ad (dskE Z.2.1 ad d) 0 [(0, .ref (ad 0)), (1, .int v1)] []
  refine g_aload_n C dX0_beginsExtent_0 0 rfl ?_
  refine g_getf (v := .ref (ad 3)) C 0 (by decide) rfl rfl in_X0_beginsExtent 1 (by decide) fl_X0_beginsExtent_20 rfl dX0_beginsExtent_1 ?_
  refine g_iload_n C dX0_beginsExtent_4 1 rfl ?_
  refine g_iconst (v := 1) C dX0_beginsExtent_5 (by decide) ?_
  refine g_isub C dX0_beginsExtent_6 ?_
  refine g_aload_n C dX0_beginsExtent_7 0 rfl ?_
  refine g_getf (v := .ref (ad 3)) C 0 (by decide) rfl rfl in_X0_beginsExtent 1 (by decide) fl_X0_beginsExtent_20 rfl dX0_beginsExtent_8 ?_
  refine g_iload_n C dX0_beginsExtent_11 1 rfl ?_
  obtain ⟨r1, er1, h⟩ := gb1 h
  refine g_callVi (rest := [.int (v1 - 1), .ref (ad 3)]) C gX0_beginsExtent_X3_at rfl ok_X3_at ⟨by decide, by decide⟩ ⟨rfl, rfl⟩ 3 2 (by decide) (adc := fun i => ad (3 + i)) (fun _ _ => rfl) (dskE_row 1 (by decide)) 0 (by decide) rfl rfl (fun hI => cn_X3_at X.2.1 Z (fun i => ad (3 + i)) hI 64 (d 1) v1 er1) rfl dX0_beginsExtent_12 rfl (Nat.le_of_ble_eq_true rfl) (dskE Z.2.1 ad d) (dskE_id 1 (by decide)) ?_
  obtain ⟨r2, er2, h⟩ := gb1 h
  refine g_callVi (rest := []) C gX0_beginsExtent_X3_holds rfl ok_X3_holds ⟨by decide, by decide⟩ ⟨rfl, rfl⟩ 3 2 (by decide) (adc := fun i => ad (3 + i)) (fun _ _ => rfl) (dskE_row 1 (by decide)) 0 (by decide) rfl rfl (fun hI => cn_X3_holds X.2.1 Z (fun i => ad (3 + i)) hI 64 (d 1) (v1 - 1) r1 er2) rfl dX0_beginsExtent_15 rfl (Nat.le_of_ble_eq_true rfl) (dskE Z.2.1 ad d) (dskE_id 1 (by decide)) ?_
  refine g_if_eq (tgt := 44) C dX0_beginsExtent_18 (by decide) (fun c3 => ?_) (fun c3 => ?_)
  · replace h := gi_pos c3 h
    refine g_iconst (v := 1) C dX0_beginsExtent_44 (by decide) ?_
    refine g_goto (tgt := 49) C dX0_beginsExtent_45 (by decide) ?_
    obtain rfl := gs1 h
    exact g_zret C e rfl dX0_beginsExtent_49
  · replace h := gi_neg c3 h
    refine g_aload_n C dX0_beginsExtent_21 0 rfl ?_
    refine g_getf (v := .ref (ad 5)) C 0 (by decide) rfl rfl in_X0_beginsExtent 2 (by decide) fl_X0_beginsExtent_23 rfl dX0_beginsExtent_22 ?_
    refine g_iload_n C dX0_beginsExtent_25 1 rfl ?_
    refine g_iconst (v := 1) C dX0_beginsExtent_26 (by decide) ?_
    refine g_isub C dX0_beginsExtent_27 ?_
    refine g_aload_n C dX0_beginsExtent_28 0 rfl ?_
    refine g_getf (v := .ref (ad 5)) C 0 (by decide) rfl rfl in_X0_beginsExtent 2 (by decide) fl_X0_beginsExtent_23 rfl dX0_beginsExtent_29 ?_
    refine g_iload_n C dX0_beginsExtent_32 1 rfl ?_
    obtain ⟨r4, er4, h⟩ := gb1 h
    refine g_callVi (rest := [.int (v1 - 1), .ref (ad 5)]) C gX0_beginsExtent_X3_at rfl ok_X3_at ⟨by decide, by decide⟩ ⟨rfl, rfl⟩ 5 2 (by decide) (adc := fun i => ad (5 + i)) (fun _ _ => rfl) (dskE_row 2 (by decide)) 0 (by decide) rfl rfl (fun hI => cn_X3_at X.2.1 Z (fun i => ad (5 + i)) hI 64 (d 2) v1 er4) rfl dX0_beginsExtent_33 rfl (Nat.le_of_ble_eq_true rfl) (dskE Z.2.1 ad d) (dskE_id 2 (by decide)) ?_
    refine g_iconst (v := 1) C dX0_beginsExtent_36 (by decide) ?_
    refine g_isub C dX0_beginsExtent_37 ?_
    obtain ⟨r5, er5, h⟩ := gb1 h
    refine g_callVi (rest := []) C gX0_beginsExtent_X3_holds rfl ok_X3_holds ⟨by decide, by decide⟩ ⟨rfl, rfl⟩ 5 2 (by decide) (adc := fun i => ad (5 + i)) (fun _ _ => rfl) (dskE_row 2 (by decide)) 0 (by decide) rfl rfl (fun hI => cn_X3_holds X.2.1 Z (fun i => ad (5 + i)) hI 64 (d 2) (v1 - 1) (r4 - 1) er5) rfl dX0_beginsExtent_38 rfl (Nat.le_of_ble_eq_true rfl) (dskE Z.2.1 ad d) (dskE_id 2 (by decide)) ?_
    refine g_if_ne (tgt := 48) C dX0_beginsExtent_41 (by decide) (fun c6 => ?_) (fun c6 => ?_)
    · replace h := gi_neg c6 h
      refine g_iconst (v := 0) C dX0_beginsExtent_48 (by decide) ?_
      obtain rfl := gs1 h
      exact g_zret C e rfl dX0_beginsExtent_49
    · replace h := gi_pos c6 h
      refine g_iconst (v := 1) C dX0_beginsExtent_44 (by decide) ?_
      refine g_goto (tgt := 49) C dX0_beginsExtent_45 (by decide) ?_
      obtain rfl := gs1 h
      exact g_zret C e rfl dX0_beginsExtent_49
abbrev rm_X0_extentsOf : Room := ({ frames := 2, cells := 0, slots := 0, locals := 43 } : Room)
def f_X0_extentsOf_L4 (d : Nat → Nat → Int32) (v1 : Int32) : Nat → Int32 → Int32 → Option Int32
  | 0, _, _ => none
  | fu + 1, v2, v3 => if 64 ≤ v3 then some v2 else gb (f_X3_holds 64 (d 1) v3 v1) (fun r2 => if r2 = 0 then glet (v3 + 1) (fun x4 => f_X0_extentsOf_L4 d v1 fu v2 x4) else gb (f_X0_beginsExtent d v3) (fun r5 => if r5 = 0 then glet (v3 + 1) (fun x7 => f_X0_extentsOf_L4 d v1 fu v2 x7) else glet (v2 + 1) (fun x8 => glet (v3 + 1) (fun x9 => f_X0_extentsOf_L4 d v1 fu x8 x9))))
def f_X0_extentsOf (d : Nat → Nat → Int32) (v1 : Int32) : Option Int32 := f_X0_extentsOf_L4 d v1 gFu 0 0
set_option maxRecDepth 20000 in
theorem in_X0_extentsOf : ∀ w ∈ wsX00, w ∈ wsX0_extentsOf := by decide +kernel
set_option maxRecDepth 20000 in
theorem fl_X0_extentsOf_20 : Cond.fieldLink RX0 20 (TX0 1).1 (TX0 1).2.1 (TX0 1).2.2.1 ∈ wsX0_extentsOf := by decide +kernel
set_option maxHeartbeats 4000000 in
set_option maxRecDepth 100000 in
theorem cl_X0_extentsOf_L4 {X : gX} {Z : gZ} {ad : Nat → Nat} {d : Nat → Nat → Int32} {r : Int32} (C : GC X Z cX0_extentsOf 4 wsX0_extentsOf RX0 rm_X0_extentsOf 21 ad) (e : gEI X Z 21 ad .int r (dskE Z.2.1 ad d)) (v1 : Int32) : ∀ (fu : Nat) (v2 : Int32) (v3 : Int32) (h : f_X0_extentsOf_L4 d v1 fu v2 v3 = some r), GG X Z 4 21 ad (dskE Z.2.1 ad d) 4 [(0, .ref (ad 0)), (1, .int v1), (2, .int v2), (3, .int v3)] [] := by
  intro fu
  induction fu with
  | zero => intro v2 v3 h; cases h
  | succ fu ih =>
    intro v2 v3 h
    rw [f_X0_extentsOf_L4] at h
    refine g_iload_n C dX0_extentsOf_4 3 rfl ?_
    refine g_bipush (v := 64) C dX0_extentsOf_5 (by decide) ?_
    refine g_icmp_ge (tgt := 39) C dX0_extentsOf_7 (by decide) (fun c1 => ?_) (fun c1 => ?_)
    · replace h := gi_pos c1 h
      refine g_iload_n C dX0_extentsOf_39 2 rfl ?_
      obtain rfl := gs1 h
      exact g_iret C e dX0_extentsOf_40
    · replace h := gi_neg c1 h
      refine g_aload_n C dX0_extentsOf_10 0 rfl ?_
      refine g_getf (v := .ref (ad 3)) C 0 (by decide) rfl rfl in_X0_extentsOf 1 (by decide) fl_X0_extentsOf_20 rfl dX0_extentsOf_11 ?_
      refine g_iload_n C dX0_extentsOf_14 3 rfl ?_
      refine g_iload_n C dX0_extentsOf_15 1 rfl ?_
      obtain ⟨r2, er2, h⟩ := gb1 h
      refine g_callVi (rest := []) C gX0_extentsOf_X3_holds rfl ok_X3_holds ⟨by decide, by decide⟩ ⟨rfl, rfl⟩ 3 2 (by decide) (adc := fun i => ad (3 + i)) (fun _ _ => rfl) (dskE_row 1 (by decide)) 0 (by decide) rfl rfl (fun hI => cn_X3_holds X.2.1 Z (fun i => ad (3 + i)) hI 64 (d 1) v3 v1 er2) rfl dX0_extentsOf_16 rfl (Nat.le_of_ble_eq_true rfl) (dskE Z.2.1 ad d) (dskE_id 1 (by decide)) ?_
      refine g_if_eq (tgt := 33) C dX0_extentsOf_19 (by decide) (fun c3 => ?_) (fun c3 => ?_)
      · replace h := gi_pos c3 h
        obtain ⟨x4, ex4, h⟩ := gl h
        refine g_iinc (v := x4) C dX0_extentsOf_33 3 rfl (by rw [ex4]; rfl) (by decide) [(3, .int x4), (0, .ref (ad 0)), (1, .int v1), (2, .int v2)] rfl ?_
        refine g_goto (tgt := 4) C dX0_extentsOf_36 (by decide) ?_
        exact g_sub [1, 2, 3, 0] rfl (ih v2 x4 h)
      · replace h := gi_neg c3 h
        refine g_aload_n C dX0_extentsOf_22 0 rfl ?_
        refine g_iload_n C dX0_extentsOf_23 3 rfl ?_
        obtain ⟨r5, er5, h⟩ := gb1 h
        refine g_callWi (rest := []) C gX0_extentsOf_X0_beginsExtent rfl ok_X0_beginsExtent ⟨by decide, by decide⟩ ⟨rfl, rfl⟩ 0 (by decide) rfl rfl (fun hI => cn_X0_beginsExtent X.2.1 Z ad hI d v3 er5) rfl dX0_extentsOf_24 rfl (Nat.le_of_ble_eq_true rfl) ?_
        refine g_if_eq (tgt := 33) C dX0_extentsOf_27 (by decide) (fun c6 => ?_) (fun c6 => ?_)
        · replace h := gi_pos c6 h
          obtain ⟨x7, ex7, h⟩ := gl h
          refine g_iinc (v := x7) C dX0_extentsOf_33 3 rfl (by rw [ex7]; rfl) (by decide) [(3, .int x7), (0, .ref (ad 0)), (1, .int v1), (2, .int v2)] rfl ?_
          refine g_goto (tgt := 4) C dX0_extentsOf_36 (by decide) ?_
          exact g_sub [1, 2, 3, 0] rfl (ih v2 x7 h)
        · replace h := gi_neg c6 h
          obtain ⟨x8, ex8, h⟩ := gl h
          refine g_iinc (v := x8) C dX0_extentsOf_30 2 rfl (by rw [ex8]; rfl) (by decide) [(2, .int x8), (0, .ref (ad 0)), (1, .int v1), (3, .int v3)] rfl ?_
          obtain ⟨x9, ex9, h⟩ := gl h
          refine g_iinc (v := x9) C dX0_extentsOf_33 3 rfl (by rw [ex9]; rfl) (by decide) [(3, .int x9), (2, .int x8), (0, .ref (ad 0)), (1, .int v1)] rfl ?_
          refine g_goto (tgt := 4) C dX0_extentsOf_36 (by decide) ?_
          exact g_sub [2, 3, 1, 0] rfl (ih x8 x9 h)
set_option maxHeartbeats 4000000 in
set_option maxRecDepth 100000 in
theorem cn_X0_extentsOf (l : Launch) (Z : gZ) (ad : Nat → Nat) (hI : gInj 21 ad) (d : Nat → Nat → Int32) (v1 : Int32) {r : Int32} (h : f_X0_extentsOf d v1 = some r) : gI l yX0_extentsOf wsX0_extentsOf rm_X0_extentsOf Z 21 ad [.ref (ad 0), .int v1] (dskE Z.2.1 ad d) r (dskE Z.2.1 ad d) := by
  refine g_entryI (cc := cX0_extentsOf) (maxL := 4) (by decide +kernel) rfl hI (Nat.le_of_ble_eq_true rfl) (fun X C e => ?_)
  unfold f_X0_extentsOf at h
  show GG X Z 4 21 ad (dskE Z.2.1 ad d) 0 [(0, .ref (ad 0)), (1, .int v1)] []
  refine g_iconst (v := 0) C dX0_extentsOf_0 (by decide) ?_
  refine g_istore_n C dX0_extentsOf_1 (by decide) [(2, .int 0), (0, .ref (ad 0)), (1, .int v1)] rfl ?_
  refine g_iconst (v := 0) C dX0_extentsOf_2 (by decide) ?_
  refine g_istore_n C dX0_extentsOf_3 (by decide) [(3, .int 0), (2, .int 0), (0, .ref (ad 0)), (1, .int v1)] rfl ?_
  exact g_sub [2, 3, 1, 0] rfl (cl_X0_extentsOf_L4 C e v1 gFu 0 0 h)
abbrev rm_X0_appendTo : Room := ({ frames := 4, cells := 0, slots := 0, locals := 97 } : Room)
def f_X0_appendTo (d : Nat → Nat → Int32) (v1 : Int32) (v2 : Int32) (v3 : Int32) : Option (Int32 × (Nat → Nat → Int32)) := gb (f_X0_isFile d v1) (fun r1 => if r1 = 0 then some ((-1), d) else if v2 < 1 then some ((-2), d) else if 64 < v2 then some ((-2), d) else if v3 < 0 then some ((-2), d) else if v3 ≤ 99 then gb (f_X0_isOpen d v1) (fun r7 => if r7 = 0 then some ((-4), d) else gb (f_X0_blocksWithoutData d) (fun r9 => if v2 ≤ r9 then gb (f_X0_lentOf d v1) (fun r11 => glet (v2 - r11) (fun x12 => if x12 ≤ 0 then gb (f_X0_write d v1 v2 v3) (fun d14 => gb (f_X0_extentsOf d14 v1) (fun r15 => some (r15, d14))) else gb (f_X0_takeBack d v1 x12) (fun d16 => gb (f_X0_lengthen d16 v1 x12) (fun d17 => gb (f_X0_write d17 v1 v2 v3) (fun d18 => gb (f_X0_extentsOf d18 v1) (fun r19 => some (r19, d18))))))) else some ((-4), d))) else some ((-2), d))
set_option maxHeartbeats 4000000 in
set_option maxRecDepth 100000 in
theorem cn_X0_appendTo (l : Launch) (Z : gZ) (ad : Nat → Nat) (hI : gInj 21 ad) (d : Nat → Nat → Int32) (v1 : Int32) (v2 : Int32) (v3 : Int32) {r : Int32} {d' : Nat → Nat → Int32} (h : f_X0_appendTo d v1 v2 v3 = some (r, d')) : gI l yX0_appendTo wsX0_appendTo rm_X0_appendTo Z 21 ad [.ref (ad 0), .int v1, .int v2, .int v3] (dskE Z.2.1 ad d) r (dskE Z.2.1 ad d') := by
  refine g_entryI (cc := cX0_appendTo) (maxL := 5) (by decide +kernel) rfl hI (Nat.le_of_ble_eq_true rfl) (fun X C e => ?_)
  unfold f_X0_appendTo at h
  show GG X Z 5 21 ad (dskE Z.2.1 ad d) 0 [(0, .ref (ad 0)), (1, .int v1), (2, .int v2), (3, .int v3)] []
  refine g_aload_n C dX0_appendTo_0 0 rfl ?_
  refine g_iload_n C dX0_appendTo_1 1 rfl ?_
  obtain ⟨r1, er1, h⟩ := gb1 h
  refine g_callWi (rest := []) C gX0_appendTo_X0_isFile rfl ok_X0_isFile ⟨by decide, by decide⟩ ⟨rfl, rfl⟩ 0 (by decide) rfl rfl (fun hI => cn_X0_isFile X.2.1 Z ad hI d v1 er1) rfl dX0_appendTo_2 rfl (Nat.le_of_ble_eq_true rfl) ?_
  refine g_if_ne (tgt := 10) C dX0_appendTo_5 (by decide) (fun c2 => ?_) (fun c2 => ?_)
  · replace h := gi_neg c2 h
    refine g_iload_n C dX0_appendTo_10 2 rfl ?_
    refine g_iconst (v := 1) C dX0_appendTo_11 (by decide) ?_
    refine g_icmp_lt (tgt := 31) C dX0_appendTo_12 (by decide) (fun c3 => ?_) (fun c3 => ?_)
    · replace h := gi_pos c3 h
      refine g_bipush (v := (-2)) C dX0_appendTo_31 (by decide) ?_
      obtain ⟨rfl, rfl⟩ := gs2 h
      exact g_iret C e dX0_appendTo_33
    · replace h := gi_neg c3 h
      refine g_iload_n C dX0_appendTo_15 2 rfl ?_
      refine g_bipush (v := 64) C dX0_appendTo_16 (by decide) ?_
      refine g_icmp_gt (tgt := 31) C dX0_appendTo_18 (by decide) (fun c4 => ?_) (fun c4 => ?_)
      · replace h := gi_pos c4 h
        refine g_bipush (v := (-2)) C dX0_appendTo_31 (by decide) ?_
        obtain ⟨rfl, rfl⟩ := gs2 h
        exact g_iret C e dX0_appendTo_33
      · replace h := gi_neg c4 h
        refine g_iload_n C dX0_appendTo_21 3 rfl ?_
        refine g_if_lt (tgt := 31) C dX0_appendTo_22 (by decide) (fun c5 => ?_) (fun c5 => ?_)
        · replace h := gi_pos c5 h
          refine g_bipush (v := (-2)) C dX0_appendTo_31 (by decide) ?_
          obtain ⟨rfl, rfl⟩ := gs2 h
          exact g_iret C e dX0_appendTo_33
        · replace h := gi_neg c5 h
          refine g_iload_n C dX0_appendTo_25 3 rfl ?_
          refine g_bipush (v := 99) C dX0_appendTo_26 (by decide) ?_
          refine g_icmp_le (tgt := 34) C dX0_appendTo_28 (by decide) (fun c6 => ?_) (fun c6 => ?_)
          · replace h := gi_pos c6 h
            refine g_aload_n C dX0_appendTo_34 0 rfl ?_
            refine g_iload_n C dX0_appendTo_35 1 rfl ?_
            obtain ⟨r7, er7, h⟩ := gb1 h
            refine g_callWi (rest := []) C gX0_appendTo_X0_isOpen rfl ok_X0_isOpen ⟨by decide, by decide⟩ ⟨rfl, rfl⟩ 0 (by decide) rfl rfl (fun hI => cn_X0_isOpen X.2.1 Z ad hI d v1 er7) rfl dX0_appendTo_36 rfl (Nat.le_of_ble_eq_true rfl) ?_
            refine g_if_eq (tgt := 50) C dX0_appendTo_39 (by decide) (fun c8 => ?_) (fun c8 => ?_)
            · replace h := gi_pos c8 h
              refine g_bipush (v := (-4)) C dX0_appendTo_50 (by decide) ?_
              obtain ⟨rfl, rfl⟩ := gs2 h
              exact g_iret C e dX0_appendTo_52
            · replace h := gi_neg c8 h
              refine g_iload_n C dX0_appendTo_42 2 rfl ?_
              refine g_aload_n C dX0_appendTo_43 0 rfl ?_
              obtain ⟨r9, er9, h⟩ := gb1 h
              refine g_callWi (rest := [.int v2]) C gX0_appendTo_X0_blocksWithoutData rfl ok_X0_blocksWithoutData ⟨by decide, by decide⟩ ⟨rfl, rfl⟩ 0 (by decide) rfl rfl (fun hI => cn_X0_blocksWithoutData X.2.1 Z ad hI d  er9) rfl dX0_appendTo_44 rfl (Nat.le_of_ble_eq_true rfl) ?_
              refine g_icmp_le (tgt := 53) C dX0_appendTo_47 (by decide) (fun c10 => ?_) (fun c10 => ?_)
              · replace h := gi_pos c10 h
                refine g_iload_n C dX0_appendTo_53 2 rfl ?_
                refine g_aload_n C dX0_appendTo_54 0 rfl ?_
                refine g_iload_n C dX0_appendTo_55 1 rfl ?_
                obtain ⟨r11, er11, h⟩ := gb1 h
                refine g_callWi (rest := [.int v2]) C gX0_appendTo_X0_lentOf rfl ok_X0_lentOf ⟨by decide, by decide⟩ ⟨rfl, rfl⟩ 0 (by decide) rfl rfl (fun hI => cn_X0_lentOf X.2.1 Z ad hI d v1 er11) rfl dX0_appendTo_56 rfl (Nat.le_of_ble_eq_true rfl) ?_
                refine g_isub C dX0_appendTo_59 ?_
                obtain ⟨x12, ex12, h⟩ := gl h
                refine g_istore C dX0_appendTo_60 (by decide) [(4, .int x12), (0, .ref (ad 0)), (1, .int v1), (2, .int v2), (3, .int v3)] (by rw [ex12]; rfl) ?_
                refine g_iload C dX0_appendTo_62 0 rfl ?_
                refine g_if_le (tgt := 81) C dX0_appendTo_64 (by decide) (fun c13 => ?_) (fun c13 => ?_)
                · replace h := gi_pos c13 h
                  refine g_aload_n C dX0_appendTo_81 1 rfl ?_
                  refine g_iload_n C dX0_appendTo_82 2 rfl ?_
                  refine g_iload_n C dX0_appendTo_83 3 rfl ?_
                  refine g_iload_n C dX0_appendTo_84 4 rfl ?_
                  obtain ⟨d14, ed14, h⟩ := gb1 h
                  refine g_callWv (rest := []) C gX0_appendTo_X0_write rfl ok_X0_write ⟨by decide, by decide⟩ ⟨rfl, rfl⟩ 0 (by decide) rfl rfl (fun hI => cn_X0_write X.2.1 Z ad hI d v1 v2 v3 ed14) rfl dX0_appendTo_85 rfl (Nat.le_of_ble_eq_true rfl) ?_
                  refine g_aload_n C dX0_appendTo_88 1 rfl ?_
                  refine g_iload_n C dX0_appendTo_89 2 rfl ?_
                  obtain ⟨r15, er15, h⟩ := gb1 h
                  refine g_callWi (rest := []) C gX0_appendTo_X0_extentsOf rfl ok_X0_extentsOf ⟨by decide, by decide⟩ ⟨rfl, rfl⟩ 0 (by decide) rfl rfl (fun hI => cn_X0_extentsOf X.2.1 Z ad hI d14 v1 er15) rfl dX0_appendTo_90 rfl (Nat.le_of_ble_eq_true rfl) ?_
                  obtain ⟨rfl, rfl⟩ := gs2 h
                  exact g_iret C e dX0_appendTo_93
                · replace h := gi_neg c13 h
                  refine g_aload_n C dX0_appendTo_67 1 rfl ?_
                  refine g_iload_n C dX0_appendTo_68 2 rfl ?_
                  refine g_iload C dX0_appendTo_69 0 rfl ?_
                  obtain ⟨d16, ed16, h⟩ := gb1 h
                  refine g_callWv (rest := []) C gX0_appendTo_X0_takeBack rfl ok_X0_takeBack ⟨by decide, by decide⟩ ⟨rfl, rfl⟩ 0 (by decide) rfl rfl (fun hI => cn_X0_takeBack X.2.1 Z ad hI d v1 x12 ed16) rfl dX0_appendTo_71 rfl (Nat.le_of_ble_eq_true rfl) ?_
                  refine g_aload_n C dX0_appendTo_74 1 rfl ?_
                  refine g_iload_n C dX0_appendTo_75 2 rfl ?_
                  refine g_iload C dX0_appendTo_76 0 rfl ?_
                  obtain ⟨d17, ed17, h⟩ := gb1 h
                  refine g_callWv (rest := []) C gX0_appendTo_X0_lengthen rfl ok_X0_lengthen ⟨by decide, by decide⟩ ⟨rfl, rfl⟩ 0 (by decide) rfl rfl (fun hI => cn_X0_lengthen X.2.1 Z ad hI d16 v1 x12 ed17) rfl dX0_appendTo_78 rfl (Nat.le_of_ble_eq_true rfl) ?_
                  refine g_aload_n C dX0_appendTo_81 1 rfl ?_
                  refine g_iload_n C dX0_appendTo_82 2 rfl ?_
                  refine g_iload_n C dX0_appendTo_83 3 rfl ?_
                  refine g_iload_n C dX0_appendTo_84 4 rfl ?_
                  obtain ⟨d18, ed18, h⟩ := gb1 h
                  refine g_callWv (rest := []) C gX0_appendTo_X0_write rfl ok_X0_write ⟨by decide, by decide⟩ ⟨rfl, rfl⟩ 0 (by decide) rfl rfl (fun hI => cn_X0_write X.2.1 Z ad hI d17 v1 v2 v3 ed18) rfl dX0_appendTo_85 rfl (Nat.le_of_ble_eq_true rfl) ?_
                  refine g_aload_n C dX0_appendTo_88 1 rfl ?_
                  refine g_iload_n C dX0_appendTo_89 2 rfl ?_
                  obtain ⟨r19, er19, h⟩ := gb1 h
                  refine g_callWi (rest := []) C gX0_appendTo_X0_extentsOf rfl ok_X0_extentsOf ⟨by decide, by decide⟩ ⟨rfl, rfl⟩ 0 (by decide) rfl rfl (fun hI => cn_X0_extentsOf X.2.1 Z ad hI d18 v1 er19) rfl dX0_appendTo_90 rfl (Nat.le_of_ble_eq_true rfl) ?_
                  obtain ⟨rfl, rfl⟩ := gs2 h
                  exact g_iret C e dX0_appendTo_93
              · replace h := gi_neg c10 h
                refine g_bipush (v := (-4)) C dX0_appendTo_50 (by decide) ?_
                obtain ⟨rfl, rfl⟩ := gs2 h
                exact g_iret C e dX0_appendTo_52
          · replace h := gi_neg c6 h
            refine g_bipush (v := (-2)) C dX0_appendTo_31 (by decide) ?_
            obtain ⟨rfl, rfl⟩ := gs2 h
            exact g_iret C e dX0_appendTo_33
  · replace h := gi_pos c2 h
    refine g_iconst (v := (-1)) C dX0_appendTo_8 (by decide) ?_
    obtain ⟨rfl, rfl⟩ := gs2 h
    exact g_iret C e dX0_appendTo_9
abbrev rm_X0_cutFile : Room := ({ frames := 3, cells := 0, slots := 0, locals := 67 } : Room)
def f_X0_cutFile (d : Nat → Nat → Int32) (v1 : Int32) (v2 : Int32) : Option (Int32 × (Nat → Nat → Int32)) := gb (f_X0_isFile d v1) (fun r1 => if r1 = 0 then some ((-1), d) else if v2 < 0 then some ((-2), d) else if v2 ≤ 64 then gb (f_X0_isOpen d v1) (fun r5 => if r5 = 0 then some ((-4), d) else gb (f_X3_at 8 (d 5) v1) (fun r7 => if v2 ≤ r7 then gb (f_X3_at 8 (d 4) v1) (fun r9 => glet (r9 - v2) (fun x10 => gbb2 (f_X0_giveBack d v1) (fun r11 d12 => gb (f_X0_freeFrom d12 v1 v2) (fun d13 => gb (f_X3_put 8 (d13 5) v1 v2) (fun w14 => glet (va_up d13 5 w14) (fun d15 => gb (f_X3_at 8 (d15 6) v1) (fun r16 => glet (if v2 < r16 then v2 else r16) (fun x17 => gb (f_X3_put 8 (d15 6) v1 x17) (fun w18 => glet (va_up d15 6 w18) (fun d19 => some (x10, d19))))))))))) else some ((-4), d))) else some ((-2), d))
set_option maxRecDepth 20000 in
theorem mm_X0_cutFile_98_1 : Cond.methodLink RX0 98 Lib.Math.min.name ∈ wsX0_cutFile := by decide +kernel
set_option maxRecDepth 20000 in
theorem mm_X0_cutFile_98_2 : Cond.static Lib.Math.min.name ∈ wsX0_cutFile := by decide +kernel
set_option maxRecDepth 20000 in
theorem mm_X0_cutFile_98_3 : Cond.initialized "java/lang/Math" ∈ wsX0_cutFile := by decide +kernel
set_option maxRecDepth 20000 in
theorem mm_X0_cutFile_98_4 : Cond.code Lib.Math.min.name Lib.Math.min.code 2 (some .int) ∈ wsX0_cutFile := by decide +kernel
set_option maxRecDepth 20000 in
theorem in_X0_cutFile : ∀ w ∈ wsX00, w ∈ wsX0_cutFile := by decide +kernel
set_option maxRecDepth 20000 in
theorem fl_X0_cutFile_35 : Cond.fieldLink RX0 35 (TX0 6).1 (TX0 6).2.1 (TX0 6).2.2.1 ∈ wsX0_cutFile := by decide +kernel
set_option maxRecDepth 20000 in
theorem fl_X0_cutFile_32 : Cond.fieldLink RX0 32 (TX0 5).1 (TX0 5).2.1 (TX0 5).2.2.1 ∈ wsX0_cutFile := by decide +kernel
set_option maxRecDepth 20000 in
theorem fl_X0_cutFile_29 : Cond.fieldLink RX0 29 (TX0 4).1 (TX0 4).2.1 (TX0 4).2.2.1 ∈ wsX0_cutFile := by decide +kernel
set_option maxHeartbeats 4000000 in
set_option maxRecDepth 100000 in
theorem cn_X0_cutFile (l : Launch) (Z : gZ) (ad : Nat → Nat) (hI : gInj 21 ad) (d : Nat → Nat → Int32) (v1 : Int32) (v2 : Int32) {r : Int32} {d' : Nat → Nat → Int32} (h : f_X0_cutFile d v1 v2 = some (r, d')) : gI l yX0_cutFile wsX0_cutFile rm_X0_cutFile Z 21 ad [.ref (ad 0), .int v1, .int v2] (dskE Z.2.1 ad d) r (dskE Z.2.1 ad d') := by
  refine g_entryI (cc := cX0_cutFile) (maxL := 4) (by decide +kernel) rfl hI (Nat.le_of_ble_eq_true rfl) (fun X C e => ?_)
  unfold f_X0_cutFile at h
  show GG X Z 4 21 ad (dskE Z.2.1 ad d) 0 [(0, .ref (ad 0)), (1, .int v1), (2, .int v2)] []
  refine g_aload_n C dX0_cutFile_0 0 rfl ?_
  refine g_iload_n C dX0_cutFile_1 1 rfl ?_
  obtain ⟨r1, er1, h⟩ := gb1 h
  refine g_callWi (rest := []) C gX0_cutFile_X0_isFile rfl ok_X0_isFile ⟨by decide, by decide⟩ ⟨rfl, rfl⟩ 0 (by decide) rfl rfl (fun hI => cn_X0_isFile X.2.1 Z ad hI d v1 er1) rfl dX0_cutFile_2 rfl (Nat.le_of_ble_eq_true rfl) ?_
  refine g_if_ne (tgt := 10) C dX0_cutFile_5 (by decide) (fun c2 => ?_) (fun c2 => ?_)
  · replace h := gi_neg c2 h
    refine g_iload_n C dX0_cutFile_10 2 rfl ?_
    refine g_if_lt (tgt := 20) C dX0_cutFile_11 (by decide) (fun c3 => ?_) (fun c3 => ?_)
    · replace h := gi_pos c3 h
      refine g_bipush (v := (-2)) C dX0_cutFile_20 (by decide) ?_
      obtain ⟨rfl, rfl⟩ := gs2 h
      exact g_iret C e dX0_cutFile_22
    · replace h := gi_neg c3 h
      refine g_iload_n C dX0_cutFile_14 2 rfl ?_
      refine g_bipush (v := 64) C dX0_cutFile_15 (by decide) ?_
      refine g_icmp_le (tgt := 23) C dX0_cutFile_17 (by decide) (fun c4 => ?_) (fun c4 => ?_)
      · replace h := gi_pos c4 h
        refine g_aload_n C dX0_cutFile_23 0 rfl ?_
        refine g_iload_n C dX0_cutFile_24 1 rfl ?_
        obtain ⟨r5, er5, h⟩ := gb1 h
        refine g_callWi (rest := []) C gX0_cutFile_X0_isOpen rfl ok_X0_isOpen ⟨by decide, by decide⟩ ⟨rfl, rfl⟩ 0 (by decide) rfl rfl (fun hI => cn_X0_isOpen X.2.1 Z ad hI d v1 er5) rfl dX0_cutFile_25 rfl (Nat.le_of_ble_eq_true rfl) ?_
        refine g_if_eq (tgt := 43) C dX0_cutFile_28 (by decide) (fun c6 => ?_) (fun c6 => ?_)
        · replace h := gi_pos c6 h
          refine g_bipush (v := (-4)) C dX0_cutFile_43 (by decide) ?_
          obtain ⟨rfl, rfl⟩ := gs2 h
          exact g_iret C e dX0_cutFile_45
        · replace h := gi_neg c6 h
          refine g_iload_n C dX0_cutFile_31 2 rfl ?_
          refine g_aload_n C dX0_cutFile_32 0 rfl ?_
          refine g_getf (v := .ref (ad 11)) C 0 (by decide) rfl rfl in_X0_cutFile 5 (by decide) fl_X0_cutFile_32 rfl dX0_cutFile_33 ?_
          refine g_iload_n C dX0_cutFile_36 1 rfl ?_
          obtain ⟨r7, er7, h⟩ := gb1 h
          refine g_callVi (rest := [.int v2]) C gX0_cutFile_X3_at rfl ok_X3_at ⟨by decide, by decide⟩ ⟨rfl, rfl⟩ 11 2 (by decide) (adc := fun i => ad (11 + i)) (fun _ _ => rfl) (dskE_row 5 (by decide)) 0 (by decide) rfl rfl (fun hI => cn_X3_at X.2.1 Z (fun i => ad (11 + i)) hI 8 (d 5) v1 er7) rfl dX0_cutFile_37 rfl (Nat.le_of_ble_eq_true rfl) (dskE Z.2.1 ad d) (dskE_id 5 (by decide)) ?_
          refine g_icmp_le (tgt := 46) C dX0_cutFile_40 (by decide) (fun c8 => ?_) (fun c8 => ?_)
          · replace h := gi_pos c8 h
            refine g_aload_n C dX0_cutFile_46 0 rfl ?_
            refine g_getf (v := .ref (ad 9)) C 0 (by decide) rfl rfl in_X0_cutFile 4 (by decide) fl_X0_cutFile_29 rfl dX0_cutFile_47 ?_
            refine g_iload_n C dX0_cutFile_50 1 rfl ?_
            obtain ⟨r9, er9, h⟩ := gb1 h
            refine g_callVi (rest := []) C gX0_cutFile_X3_at rfl ok_X3_at ⟨by decide, by decide⟩ ⟨rfl, rfl⟩ 9 2 (by decide) (adc := fun i => ad (9 + i)) (fun _ _ => rfl) (dskE_row 4 (by decide)) 0 (by decide) rfl rfl (fun hI => cn_X3_at X.2.1 Z (fun i => ad (9 + i)) hI 8 (d 4) v1 er9) rfl dX0_cutFile_51 rfl (Nat.le_of_ble_eq_true rfl) (dskE Z.2.1 ad d) (dskE_id 4 (by decide)) ?_
            refine g_iload_n C dX0_cutFile_54 2 rfl ?_
            refine g_isub C dX0_cutFile_55 ?_
            obtain ⟨x10, ex10, h⟩ := gl h
            refine g_istore_n C dX0_cutFile_56 (by decide) [(3, .int x10), (0, .ref (ad 0)), (1, .int v1), (2, .int v2)] (by rw [ex10]; rfl) ?_
            refine g_aload_n C dX0_cutFile_57 1 rfl ?_
            refine g_iload_n C dX0_cutFile_58 2 rfl ?_
            obtain ⟨r11, d12, er11, h⟩ := gb2 h
            refine g_callWi (rest := []) C gX0_cutFile_X0_giveBack rfl ok_X0_giveBack ⟨by decide, by decide⟩ ⟨rfl, rfl⟩ 0 (by decide) rfl rfl (fun hI => cn_X0_giveBack X.2.1 Z ad hI d v1 er11) rfl dX0_cutFile_59 rfl (Nat.le_of_ble_eq_true rfl) ?_
            refine g_pop C dX0_cutFile_62 rfl ?_
            refine g_aload_n C dX0_cutFile_63 1 rfl ?_
            refine g_iload_n C dX0_cutFile_64 2 rfl ?_
            refine g_iload_n C dX0_cutFile_65 3 rfl ?_
            obtain ⟨d13, ed13, h⟩ := gb1 h
            refine g_callWv (rest := []) C gX0_cutFile_X0_freeFrom rfl ok_X0_freeFrom ⟨by decide, by decide⟩ ⟨rfl, rfl⟩ 0 (by decide) rfl rfl (fun hI => cn_X0_freeFrom X.2.1 Z ad hI d12 v1 v2 ed13) rfl dX0_cutFile_66 rfl (Nat.le_of_ble_eq_true rfl) ?_
            refine g_aload_n C dX0_cutFile_69 1 rfl ?_
            refine g_getf (v := .ref (ad 11)) C 0 (by decide) rfl rfl in_X0_cutFile 5 (by decide) fl_X0_cutFile_32 rfl dX0_cutFile_70 ?_
            refine g_iload_n C dX0_cutFile_73 2 rfl ?_
            refine g_iload_n C dX0_cutFile_74 3 rfl ?_
            obtain ⟨w14, ew14, h⟩ := gb1 h
            obtain ⟨d15, ed15, h⟩ := gl h
            refine g_callVv (rest := []) C gX0_cutFile_X3_put rfl ok_X3_put ⟨by decide, by decide⟩ ⟨rfl, rfl⟩ 11 2 (by decide) (adc := fun i => ad (11 + i)) (fun _ _ => rfl) (dskE_row 5 (by decide)) 0 (by decide) rfl rfl (fun hI => cn_X3_put X.2.1 Z (fun i => ad (11 + i)) hI 8 (d13 5) v1 v2 ew14) rfl dX0_cutFile_75 rfl (Nat.le_of_ble_eq_true rfl) (dskE Z.2.1 ad d15) (by rw [ed15]; exact (dskE_up 5 (by decide))) ?_
            refine g_aload_n C dX0_cutFile_78 1 rfl ?_
            refine g_getf (v := .ref (ad 13)) C 0 (by decide) rfl rfl in_X0_cutFile 6 (by decide) fl_X0_cutFile_35 rfl dX0_cutFile_79 ?_
            refine g_iload_n C dX0_cutFile_82 2 rfl ?_
            refine g_aload_n C dX0_cutFile_83 1 rfl ?_
            refine g_getf (v := .ref (ad 13)) C 0 (by decide) rfl rfl in_X0_cutFile 6 (by decide) fl_X0_cutFile_35 rfl dX0_cutFile_84 ?_
            refine g_iload_n C dX0_cutFile_87 2 rfl ?_
            obtain ⟨r16, er16, h⟩ := gb1 h
            refine g_callVi (rest := [.int v1, .ref (ad 13)]) C gX0_cutFile_X3_at rfl ok_X3_at ⟨by decide, by decide⟩ ⟨rfl, rfl⟩ 13 2 (by decide) (adc := fun i => ad (13 + i)) (fun _ _ => rfl) (dskE_row 6 (by decide)) 0 (by decide) rfl rfl (fun hI => cn_X3_at X.2.1 Z (fun i => ad (13 + i)) hI 8 (d15 6) v1 er16) rfl dX0_cutFile_88 rfl (Nat.le_of_ble_eq_true rfl) (dskE Z.2.1 ad d15) (dskE_id 6 (by decide)) ?_
            refine g_iload_n C dX0_cutFile_91 3 rfl ?_
            obtain ⟨x17, ex17, h⟩ := gl h
            refine g_mmin C mm_X0_cutFile_98_1 mm_X0_cutFile_98_2 mm_X0_cutFile_98_3 mm_X0_cutFile_98_4 (by decide) (Nat.le_of_ble_eq_true rfl) dX0_cutFile_92 ?_
            rw [← ex17]
            obtain ⟨w18, ew18, h⟩ := gb1 h
            obtain ⟨d19, ed19, h⟩ := gl h
            refine g_callVv (rest := []) C gX0_cutFile_X3_put rfl ok_X3_put ⟨by decide, by decide⟩ ⟨rfl, rfl⟩ 13 2 (by decide) (adc := fun i => ad (13 + i)) (fun _ _ => rfl) (dskE_row 6 (by decide)) 0 (by decide) rfl rfl (fun hI => cn_X3_put X.2.1 Z (fun i => ad (13 + i)) hI 8 (d15 6) v1 x17 ew18) rfl dX0_cutFile_95 rfl (Nat.le_of_ble_eq_true rfl) (dskE Z.2.1 ad d19) (by rw [ed19]; exact (dskE_up 6 (by decide))) ?_
            refine g_iload_n C dX0_cutFile_98 0 rfl ?_
            obtain ⟨rfl, rfl⟩ := gs2 h
            exact g_iret C e dX0_cutFile_99
          · replace h := gi_neg c8 h
            refine g_bipush (v := (-4)) C dX0_cutFile_43 (by decide) ?_
            obtain ⟨rfl, rfl⟩ := gs2 h
            exact g_iret C e dX0_cutFile_45
      · replace h := gi_neg c4 h
        refine g_bipush (v := (-2)) C dX0_cutFile_20 (by decide) ?_
        obtain ⟨rfl, rfl⟩ := gs2 h
        exact g_iret C e dX0_cutFile_22
  · replace h := gi_pos c2 h
    refine g_iconst (v := (-1)) C dX0_cutFile_8 (by decide) ?_
    obtain ⟨rfl, rfl⟩ := gs2 h
    exact g_iret C e dX0_cutFile_9
abbrev rm_X0_crashAll : Room := ({ frames := 2, cells := 0, slots := 0, locals := 43 } : Room)
def f_X0_crashAll_L4  : Nat → Int32 → Int32 → (Nat → Nat → Int32) → Option (Int32 × (Nat → Nat → Int32))
  | 0, _, _, _ => none
  | fu + 1, v1, v2, d => if 8 ≤ v2 then gb (f_X3_grow 4 (d 9) 3 v1) (fun w2 => glet (va_up d 9 w2) (fun d3 => some (v1, d3))) else gb (f_X0_isFile d v2) (fun r4 => if r4 = 0 then glet (v2 + 1) (fun x6 => f_X0_crashAll_L4 fu v1 x6 d) else gb (f_X3_at 8 (d 5) v2) (fun r7 => gb (f_X3_at 8 (d 6) v2) (fun r8 => glet (v1 + (r7 - r8)) (fun x9 => gb (f_X3_at 8 (d 6) v2) (fun r10 => gb (f_X3_put 8 (d 5) v2 r10) (fun w11 => glet (va_up d 5 w11) (fun d12 => gb (f_X3_put 8 (d12 7) v2 1) (fun w13 => glet (va_up d12 7 w13) (fun d14 => gb (f_X3_put 8 (d14 3) v2 1) (fun w15 => glet (va_up d14 3 w15) (fun d16 => glet (v2 + 1) (fun x17 => f_X0_crashAll_L4 fu x9 x17 d16))))))))))))
def f_X0_crashAll (d : Nat → Nat → Int32) : Option (Int32 × (Nat → Nat → Int32)) := f_X0_crashAll_L4 gFu 0 0 d
set_option maxRecDepth 20000 in
theorem in_X0_crashAll : ∀ w ∈ wsX00, w ∈ wsX0_crashAll := by decide +kernel
set_option maxRecDepth 20000 in
theorem fl_X0_crashAll_44 : Cond.fieldLink RX0 44 (TX0 9).1 (TX0 9).2.1 (TX0 9).2.2.1 ∈ wsX0_crashAll := by decide +kernel
set_option maxRecDepth 20000 in
theorem fl_X0_crashAll_26 : Cond.fieldLink RX0 26 (TX0 3).1 (TX0 3).2.1 (TX0 3).2.2.1 ∈ wsX0_crashAll := by decide +kernel
set_option maxRecDepth 20000 in
theorem fl_X0_crashAll_38 : Cond.fieldLink RX0 38 (TX0 7).1 (TX0 7).2.1 (TX0 7).2.2.1 ∈ wsX0_crashAll := by decide +kernel
set_option maxRecDepth 20000 in
theorem fl_X0_crashAll_35 : Cond.fieldLink RX0 35 (TX0 6).1 (TX0 6).2.1 (TX0 6).2.2.1 ∈ wsX0_crashAll := by decide +kernel
set_option maxRecDepth 20000 in
theorem fl_X0_crashAll_32 : Cond.fieldLink RX0 32 (TX0 5).1 (TX0 5).2.1 (TX0 5).2.2.1 ∈ wsX0_crashAll := by decide +kernel
set_option maxHeartbeats 4000000 in
set_option maxRecDepth 100000 in
theorem cl_X0_crashAll_L4 {X : gX} {Z : gZ} {ad : Nat → Nat}  {r : Int32} {d' : Nat → Nat → Int32} (C : GC X Z cX0_crashAll 3 wsX0_crashAll RX0 rm_X0_crashAll 21 ad) (e : gEI X Z 21 ad .int r (dskE Z.2.1 ad d'))  : ∀ (fu : Nat) (v1 : Int32) (v2 : Int32) (d : Nat → Nat → Int32) (h : f_X0_crashAll_L4  fu v1 v2 d = some (r, d')), GG X Z 3 21 ad (dskE Z.2.1 ad d) 4 [(0, .ref (ad 0)), (1, .int v1), (2, .int v2)] [] := by
  intro fu
  induction fu with
  | zero => intro v1 v2 d h; cases h
  | succ fu ih =>
    intro v1 v2 d h
    rw [f_X0_crashAll_L4] at h
    refine g_iload_n C dX0_crashAll_4 2 rfl ?_
    refine g_bipush (v := 8) C dX0_crashAll_5 (by decide) ?_
    refine g_icmp_ge (tgt := 78) C dX0_crashAll_7 (by decide) (fun c1 => ?_) (fun c1 => ?_)
    · replace h := gi_pos c1 h
      refine g_aload_n C dX0_crashAll_78 0 rfl ?_
      refine g_getf (v := .ref (ad 19)) C 0 (by decide) rfl rfl in_X0_crashAll 9 (by decide) fl_X0_crashAll_44 rfl dX0_crashAll_79 ?_
      refine g_iconst (v := 3) C dX0_crashAll_82 (by decide) ?_
      refine g_iload_n C dX0_crashAll_83 1 rfl ?_
      obtain ⟨w2, ew2, h⟩ := gb1 h
      obtain ⟨d3, ed3, h⟩ := gl h
      refine g_callVv (rest := []) C gX0_crashAll_X3_grow rfl ok_X3_grow ⟨by decide, by decide⟩ ⟨rfl, rfl⟩ 19 2 (by decide) (adc := fun i => ad (19 + i)) (fun _ _ => rfl) (dskE_row 9 (by decide)) 0 (by decide) rfl rfl (fun hI => cn_X3_grow X.2.1 Z (fun i => ad (19 + i)) hI 4 (d 9) 3 v1 ew2) rfl dX0_crashAll_84 rfl (Nat.le_of_ble_eq_true rfl) (dskE Z.2.1 ad d3) (by rw [ed3]; exact (dskE_up 9 (by decide))) ?_
      refine g_iload_n C dX0_crashAll_87 1 rfl ?_
      obtain ⟨rfl, rfl⟩ := gs2 h
      exact g_iret C e dX0_crashAll_88
    · replace h := gi_neg c1 h
      refine g_aload_n C dX0_crashAll_10 0 rfl ?_
      refine g_iload_n C dX0_crashAll_11 2 rfl ?_
      obtain ⟨r4, er4, h⟩ := gb1 h
      refine g_callWi (rest := []) C gX0_crashAll_X0_isFile rfl ok_X0_isFile ⟨by decide, by decide⟩ ⟨rfl, rfl⟩ 0 (by decide) rfl rfl (fun hI => cn_X0_isFile X.2.1 Z ad hI d v2 er4) rfl dX0_crashAll_12 rfl (Nat.le_of_ble_eq_true rfl) ?_
      refine g_if_eq (tgt := 72) C dX0_crashAll_15 (by decide) (fun c5 => ?_) (fun c5 => ?_)
      · replace h := gi_pos c5 h
        obtain ⟨x6, ex6, h⟩ := gl h
        refine g_iinc (v := x6) C dX0_crashAll_72 2 rfl (by rw [ex6]; rfl) (by decide) [(2, .int x6), (0, .ref (ad 0)), (1, .int v1)] rfl ?_
        refine g_goto (tgt := 4) C dX0_crashAll_75 (by decide) ?_
        exact g_sub [1, 2, 0] rfl (ih v1 x6 d h)
      · replace h := gi_neg c5 h
        refine g_iload_n C dX0_crashAll_18 1 rfl ?_
        refine g_aload_n C dX0_crashAll_19 0 rfl ?_
        refine g_getf (v := .ref (ad 11)) C 0 (by decide) rfl rfl in_X0_crashAll 5 (by decide) fl_X0_crashAll_32 rfl dX0_crashAll_20 ?_
        refine g_iload_n C dX0_crashAll_23 2 rfl ?_
        obtain ⟨r7, er7, h⟩ := gb1 h
        refine g_callVi (rest := [.int v1]) C gX0_crashAll_X3_at rfl ok_X3_at ⟨by decide, by decide⟩ ⟨rfl, rfl⟩ 11 2 (by decide) (adc := fun i => ad (11 + i)) (fun _ _ => rfl) (dskE_row 5 (by decide)) 0 (by decide) rfl rfl (fun hI => cn_X3_at X.2.1 Z (fun i => ad (11 + i)) hI 8 (d 5) v2 er7) rfl dX0_crashAll_24 rfl (Nat.le_of_ble_eq_true rfl) (dskE Z.2.1 ad d) (dskE_id 5 (by decide)) ?_
        refine g_aload_n C dX0_crashAll_27 0 rfl ?_
        refine g_getf (v := .ref (ad 13)) C 0 (by decide) rfl rfl in_X0_crashAll 6 (by decide) fl_X0_crashAll_35 rfl dX0_crashAll_28 ?_
        refine g_iload_n C dX0_crashAll_31 2 rfl ?_
        obtain ⟨r8, er8, h⟩ := gb1 h
        refine g_callVi (rest := [.int r7, .int v1]) C gX0_crashAll_X3_at rfl ok_X3_at ⟨by decide, by decide⟩ ⟨rfl, rfl⟩ 13 2 (by decide) (adc := fun i => ad (13 + i)) (fun _ _ => rfl) (dskE_row 6 (by decide)) 0 (by decide) rfl rfl (fun hI => cn_X3_at X.2.1 Z (fun i => ad (13 + i)) hI 8 (d 6) v2 er8) rfl dX0_crashAll_32 rfl (Nat.le_of_ble_eq_true rfl) (dskE Z.2.1 ad d) (dskE_id 6 (by decide)) ?_
        refine g_isub C dX0_crashAll_35 ?_
        refine g_iadd C dX0_crashAll_36 ?_
        obtain ⟨x9, ex9, h⟩ := gl h
        refine g_istore_n C dX0_crashAll_37 (by decide) [(1, .int x9), (0, .ref (ad 0)), (2, .int v2)] (by rw [ex9]; rfl) ?_
        refine g_aload_n C dX0_crashAll_38 1 rfl ?_
        refine g_getf (v := .ref (ad 11)) C 0 (by decide) rfl rfl in_X0_crashAll 5 (by decide) fl_X0_crashAll_32 rfl dX0_crashAll_39 ?_
        refine g_iload_n C dX0_crashAll_42 2 rfl ?_
        refine g_aload_n C dX0_crashAll_43 1 rfl ?_
        refine g_getf (v := .ref (ad 13)) C 0 (by decide) rfl rfl in_X0_crashAll 6 (by decide) fl_X0_crashAll_35 rfl dX0_crashAll_44 ?_
        refine g_iload_n C dX0_crashAll_47 2 rfl ?_
        obtain ⟨r10, er10, h⟩ := gb1 h
        refine g_callVi (rest := [.int v2, .ref (ad 11)]) C gX0_crashAll_X3_at rfl ok_X3_at ⟨by decide, by decide⟩ ⟨rfl, rfl⟩ 13 2 (by decide) (adc := fun i => ad (13 + i)) (fun _ _ => rfl) (dskE_row 6 (by decide)) 0 (by decide) rfl rfl (fun hI => cn_X3_at X.2.1 Z (fun i => ad (13 + i)) hI 8 (d 6) v2 er10) rfl dX0_crashAll_48 rfl (Nat.le_of_ble_eq_true rfl) (dskE Z.2.1 ad d) (dskE_id 6 (by decide)) ?_
        obtain ⟨w11, ew11, h⟩ := gb1 h
        obtain ⟨d12, ed12, h⟩ := gl h
        refine g_callVv (rest := []) C gX0_crashAll_X3_put rfl ok_X3_put ⟨by decide, by decide⟩ ⟨rfl, rfl⟩ 11 2 (by decide) (adc := fun i => ad (11 + i)) (fun _ _ => rfl) (dskE_row 5 (by decide)) 0 (by decide) rfl rfl (fun hI => cn_X3_put X.2.1 Z (fun i => ad (11 + i)) hI 8 (d 5) v2 r10 ew11) rfl dX0_crashAll_51 rfl (Nat.le_of_ble_eq_true rfl) (dskE Z.2.1 ad d12) (by rw [ed12]; exact (dskE_up 5 (by decide))) ?_
        refine g_aload_n C dX0_crashAll_54 1 rfl ?_
        refine g_getf (v := .ref (ad 15)) C 0 (by decide) rfl rfl in_X0_crashAll 7 (by decide) fl_X0_crashAll_38 rfl dX0_crashAll_55 ?_
        refine g_iload_n C dX0_crashAll_58 2 rfl ?_
        refine g_iconst (v := 1) C dX0_crashAll_59 (by decide) ?_
        obtain ⟨w13, ew13, h⟩ := gb1 h
        obtain ⟨d14, ed14, h⟩ := gl h
        refine g_callVv (rest := []) C gX0_crashAll_X3_put rfl ok_X3_put ⟨by decide, by decide⟩ ⟨rfl, rfl⟩ 15 2 (by decide) (adc := fun i => ad (15 + i)) (fun _ _ => rfl) (dskE_row 7 (by decide)) 0 (by decide) rfl rfl (fun hI => cn_X3_put X.2.1 Z (fun i => ad (15 + i)) hI 8 (d12 7) v2 1 ew13) rfl dX0_crashAll_60 rfl (Nat.le_of_ble_eq_true rfl) (dskE Z.2.1 ad d14) (by rw [ed14]; exact (dskE_up 7 (by decide))) ?_
        refine g_aload_n C dX0_crashAll_63 1 rfl ?_
        refine g_getf (v := .ref (ad 7)) C 0 (by decide) rfl rfl in_X0_crashAll 3 (by decide) fl_X0_crashAll_26 rfl dX0_crashAll_64 ?_
        refine g_iload_n C dX0_crashAll_67 2 rfl ?_
        refine g_iconst (v := 1) C dX0_crashAll_68 (by decide) ?_
        obtain ⟨w15, ew15, h⟩ := gb1 h
        obtain ⟨d16, ed16, h⟩ := gl h
        refine g_callVv (rest := []) C gX0_crashAll_X3_put rfl ok_X3_put ⟨by decide, by decide⟩ ⟨rfl, rfl⟩ 7 2 (by decide) (adc := fun i => ad (7 + i)) (fun _ _ => rfl) (dskE_row 3 (by decide)) 0 (by decide) rfl rfl (fun hI => cn_X3_put X.2.1 Z (fun i => ad (7 + i)) hI 8 (d14 3) v2 1 ew15) rfl dX0_crashAll_69 rfl (Nat.le_of_ble_eq_true rfl) (dskE Z.2.1 ad d16) (by rw [ed16]; exact (dskE_up 3 (by decide))) ?_
        obtain ⟨x17, ex17, h⟩ := gl h
        refine g_iinc (v := x17) C dX0_crashAll_72 2 rfl (by rw [ex17]; rfl) (by decide) [(2, .int x17), (1, .int x9), (0, .ref (ad 0))] rfl ?_
        refine g_goto (tgt := 4) C dX0_crashAll_75 (by decide) ?_
        exact g_sub [2, 1, 0] rfl (ih x9 x17 d16 h)
set_option maxHeartbeats 4000000 in
set_option maxRecDepth 100000 in
theorem cn_X0_crashAll (l : Launch) (Z : gZ) (ad : Nat → Nat) (hI : gInj 21 ad) (d : Nat → Nat → Int32) {r : Int32} {d' : Nat → Nat → Int32} (h : f_X0_crashAll d = some (r, d')) : gI l yX0_crashAll wsX0_crashAll rm_X0_crashAll Z 21 ad [.ref (ad 0)] (dskE Z.2.1 ad d) r (dskE Z.2.1 ad d') := by
  refine g_entryI (cc := cX0_crashAll) (maxL := 3) (by decide +kernel) rfl hI (Nat.le_of_ble_eq_true rfl) (fun X C e => ?_)
  unfold f_X0_crashAll at h
  show GG X Z 3 21 ad (dskE Z.2.1 ad d) 0 [(0, .ref (ad 0))] []
  refine g_iconst (v := 0) C dX0_crashAll_0 (by decide) ?_
  refine g_istore_n C dX0_crashAll_1 (by decide) [(1, .int 0), (0, .ref (ad 0))] rfl ?_
  refine g_iconst (v := 0) C dX0_crashAll_2 (by decide) ?_
  refine g_istore_n C dX0_crashAll_3 (by decide) [(2, .int 0), (1, .int 0), (0, .ref (ad 0))] rfl ?_
  exact g_sub [2, 1, 0] rfl (cl_X0_crashAll_L4 C e gFu 0 0 d h)
abbrev rm_X0_mendAll : Room := ({ frames := 3, cells := 0, slots := 0, locals := 67 } : Room)
def f_X0_mendAll_L4  : Nat → Int32 → Int32 → (Nat → Nat → Int32) → Option (Int32 × (Nat → Nat → Int32))
  | 0, _, _, _ => none
  | fu + 1, v1, v2, d => if 8 ≤ v2 then some (v1, d) else gb (f_X3_holds 8 (d 3) v2 1) (fun r2 => if r2 = 0 then glet (v2 + 1) (fun x4 => f_X0_mendAll_L4 fu v1 x4 d) else gbb2 (f_X0_giveBack d v2) (fun r5 d6 => glet (v1 + r5) (fun x7 => glet (v2 + 1) (fun x8 => f_X0_mendAll_L4 fu x7 x8 d6))))
def f_X0_mendAll (d : Nat → Nat → Int32) : Option (Int32 × (Nat → Nat → Int32)) := f_X0_mendAll_L4 gFu 0 0 d
set_option maxRecDepth 20000 in
theorem in_X0_mendAll : ∀ w ∈ wsX00, w ∈ wsX0_mendAll := by decide +kernel
set_option maxRecDepth 20000 in
theorem fl_X0_mendAll_26 : Cond.fieldLink RX0 26 (TX0 3).1 (TX0 3).2.1 (TX0 3).2.2.1 ∈ wsX0_mendAll := by decide +kernel
set_option maxHeartbeats 4000000 in
set_option maxRecDepth 100000 in
theorem cl_X0_mendAll_L4 {X : gX} {Z : gZ} {ad : Nat → Nat}  {r : Int32} {d' : Nat → Nat → Int32} (C : GC X Z cX0_mendAll 3 wsX0_mendAll RX0 rm_X0_mendAll 21 ad) (e : gEI X Z 21 ad .int r (dskE Z.2.1 ad d'))  : ∀ (fu : Nat) (v1 : Int32) (v2 : Int32) (d : Nat → Nat → Int32) (h : f_X0_mendAll_L4  fu v1 v2 d = some (r, d')), GG X Z 3 21 ad (dskE Z.2.1 ad d) 4 [(0, .ref (ad 0)), (1, .int v1), (2, .int v2)] [] := by
  intro fu
  induction fu with
  | zero => intro v1 v2 d h; cases h
  | succ fu ih =>
    intro v1 v2 d h
    rw [f_X0_mendAll_L4] at h
    refine g_iload_n C dX0_mendAll_4 2 rfl ?_
    refine g_bipush (v := 8) C dX0_mendAll_5 (by decide) ?_
    refine g_icmp_ge (tgt := 36) C dX0_mendAll_7 (by decide) (fun c1 => ?_) (fun c1 => ?_)
    · replace h := gi_pos c1 h
      refine g_iload_n C dX0_mendAll_36 1 rfl ?_
      obtain ⟨rfl, rfl⟩ := gs2 h
      exact g_iret C e dX0_mendAll_37
    · replace h := gi_neg c1 h
      refine g_aload_n C dX0_mendAll_10 0 rfl ?_
      refine g_getf (v := .ref (ad 7)) C 0 (by decide) rfl rfl in_X0_mendAll 3 (by decide) fl_X0_mendAll_26 rfl dX0_mendAll_11 ?_
      refine g_iload_n C dX0_mendAll_14 2 rfl ?_
      refine g_iconst (v := 1) C dX0_mendAll_15 (by decide) ?_
      obtain ⟨r2, er2, h⟩ := gb1 h
      refine g_callVi (rest := []) C gX0_mendAll_X3_holds rfl ok_X3_holds ⟨by decide, by decide⟩ ⟨rfl, rfl⟩ 7 2 (by decide) (adc := fun i => ad (7 + i)) (fun _ _ => rfl) (dskE_row 3 (by decide)) 0 (by decide) rfl rfl (fun hI => cn_X3_holds X.2.1 Z (fun i => ad (7 + i)) hI 8 (d 3) v2 1 er2) rfl dX0_mendAll_16 rfl (Nat.le_of_ble_eq_true rfl) (dskE Z.2.1 ad d) (dskE_id 3 (by decide)) ?_
      refine g_if_eq (tgt := 30) C dX0_mendAll_19 (by decide) (fun c3 => ?_) (fun c3 => ?_)
      · replace h := gi_pos c3 h
        obtain ⟨x4, ex4, h⟩ := gl h
        refine g_iinc (v := x4) C dX0_mendAll_30 2 rfl (by rw [ex4]; rfl) (by decide) [(2, .int x4), (0, .ref (ad 0)), (1, .int v1)] rfl ?_
        refine g_goto (tgt := 4) C dX0_mendAll_33 (by decide) ?_
        exact g_sub [1, 2, 0] rfl (ih v1 x4 d h)
      · replace h := gi_neg c3 h
        refine g_iload_n C dX0_mendAll_22 1 rfl ?_
        refine g_aload_n C dX0_mendAll_23 0 rfl ?_
        refine g_iload_n C dX0_mendAll_24 2 rfl ?_
        obtain ⟨r5, d6, er5, h⟩ := gb2 h
        refine g_callWi (rest := [.int v1]) C gX0_mendAll_X0_giveBack rfl ok_X0_giveBack ⟨by decide, by decide⟩ ⟨rfl, rfl⟩ 0 (by decide) rfl rfl (fun hI => cn_X0_giveBack X.2.1 Z ad hI d v2 er5) rfl dX0_mendAll_25 rfl (Nat.le_of_ble_eq_true rfl) ?_
        refine g_iadd C dX0_mendAll_28 ?_
        obtain ⟨x7, ex7, h⟩ := gl h
        refine g_istore_n C dX0_mendAll_29 (by decide) [(1, .int x7), (0, .ref (ad 0)), (2, .int v2)] (by rw [ex7]; rfl) ?_
        obtain ⟨x8, ex8, h⟩ := gl h
        refine g_iinc (v := x8) C dX0_mendAll_30 2 rfl (by rw [ex8]; rfl) (by decide) [(2, .int x8), (1, .int x7), (0, .ref (ad 0))] rfl ?_
        refine g_goto (tgt := 4) C dX0_mendAll_33 (by decide) ?_
        exact g_sub [2, 1, 0] rfl (ih x7 x8 d6 h)
set_option maxHeartbeats 4000000 in
set_option maxRecDepth 100000 in
theorem cn_X0_mendAll (l : Launch) (Z : gZ) (ad : Nat → Nat) (hI : gInj 21 ad) (d : Nat → Nat → Int32) {r : Int32} {d' : Nat → Nat → Int32} (h : f_X0_mendAll d = some (r, d')) : gI l yX0_mendAll wsX0_mendAll rm_X0_mendAll Z 21 ad [.ref (ad 0)] (dskE Z.2.1 ad d) r (dskE Z.2.1 ad d') := by
  refine g_entryI (cc := cX0_mendAll) (maxL := 3) (by decide +kernel) rfl hI (Nat.le_of_ble_eq_true rfl) (fun X C e => ?_)
  unfold f_X0_mendAll at h
  show GG X Z 3 21 ad (dskE Z.2.1 ad d) 0 [(0, .ref (ad 0))] []
  refine g_iconst (v := 0) C dX0_mendAll_0 (by decide) ?_
  refine g_istore_n C dX0_mendAll_1 (by decide) [(1, .int 0), (0, .ref (ad 0))] rfl ?_
  refine g_iconst (v := 0) C dX0_mendAll_2 (by decide) ?_
  refine g_istore_n C dX0_mendAll_3 (by decide) [(2, .int 0), (1, .int 0), (0, .ref (ad 0))] rfl ?_
  exact g_sub [2, 1, 0] rfl (cl_X0_mendAll_L4 C e gFu 0 0 d h)
abbrev rm_X0_changeSetting : Room := ({ frames := 1, cells := 0, slots := 0, locals := 22 } : Room)
def f_X0_changeSetting (d : Nat → Nat → Int32) (v1 : Int32) (v2 : Int32) : Option (Int32 × (Nat → Nat → Int32)) := if v1 = 0 then if v2 < 0 then some ((-2), d) else if v2 ≤ 16 then gb (f_X3_at 2 (d 8) v1) (fun r4 => gb (f_X3_put 2 (d 8) v1 v2) (fun w5 => glet (va_up d 8 w5) (fun d6 => some (r4, d6)))) else some ((-2), d) else if v1 = 1 then if v2 < 0 then some ((-2), d) else if v2 ≤ 1 then gb (f_X3_at 2 (d 8) v1) (fun r10 => gb (f_X3_put 2 (d 8) v1 v2) (fun w11 => glet (va_up d 8 w11) (fun d12 => some (r10, d12)))) else some ((-2), d) else some ((-1), d)
set_option maxRecDepth 20000 in
theorem in_X0_changeSetting : ∀ w ∈ wsX00, w ∈ wsX0_changeSetting := by decide +kernel
set_option maxRecDepth 20000 in
theorem fl_X0_changeSetting_41 : Cond.fieldLink RX0 41 (TX0 8).1 (TX0 8).2.1 (TX0 8).2.2.1 ∈ wsX0_changeSetting := by decide +kernel
set_option maxHeartbeats 4000000 in
set_option maxRecDepth 100000 in
theorem cn_X0_changeSetting (l : Launch) (Z : gZ) (ad : Nat → Nat) (hI : gInj 21 ad) (d : Nat → Nat → Int32) (v1 : Int32) (v2 : Int32) {r : Int32} {d' : Nat → Nat → Int32} (h : f_X0_changeSetting d v1 v2 = some (r, d')) : gI l yX0_changeSetting wsX0_changeSetting rm_X0_changeSetting Z 21 ad [.ref (ad 0), .int v1, .int v2] (dskE Z.2.1 ad d) r (dskE Z.2.1 ad d') := by
  refine g_entryI (cc := cX0_changeSetting) (maxL := 5) (by decide +kernel) rfl hI (Nat.le_of_ble_eq_true rfl) (fun X C e => ?_)
  unfold f_X0_changeSetting at h
  show GG X Z 5 21 ad (dskE Z.2.1 ad d) 0 [(0, .ref (ad 0)), (1, .int v1), (2, .int v2)] []
  refine g_iload_n C dX0_changeSetting_0 1 rfl ?_
  refine g_if_eq (tgt := 11) C dX0_changeSetting_1 (by decide) (fun c1 => ?_) (fun c1 => ?_)
  · replace h := gi_pos c1 h
    refine g_iload_n C dX0_changeSetting_11 1 rfl ?_
    refine g_if_ne (tgt := 20) C dX0_changeSetting_12 (by decide) (fun hc => absurd c1 hc) (fun _ => ?_)
    refine g_bipush (v := 16) C dX0_changeSetting_15 (by decide) ?_
    refine g_goto (tgt := 21) C dX0_changeSetting_17 (by decide) ?_
    refine g_istore_n C dX0_changeSetting_21 (by decide) [(3, .int 16), (0, .ref (ad 0)), (1, .int v1), (2, .int v2)] rfl ?_
    refine g_iload_n C dX0_changeSetting_22 3 rfl ?_
    refine g_if_lt (tgt := 31) C dX0_changeSetting_23 (by decide) (fun c2 => ?_) (fun c2 => ?_)
    · replace h := gi_pos c2 h
      refine g_bipush (v := (-2)) C dX0_changeSetting_31 (by decide) ?_
      obtain ⟨rfl, rfl⟩ := gs2 h
      exact g_iret C e dX0_changeSetting_33
    · replace h := gi_neg c2 h
      refine g_iload_n C dX0_changeSetting_26 3 rfl ?_
      refine g_iload_n C dX0_changeSetting_27 0 rfl ?_
      refine g_icmp_le (tgt := 34) C dX0_changeSetting_28 (by decide) (fun c3 => ?_) (fun c3 => ?_)
      · replace h := gi_pos c3 h
        refine g_aload_n C dX0_changeSetting_34 1 rfl ?_
        refine g_getf (v := .ref (ad 17)) C 0 (by decide) rfl rfl in_X0_changeSetting 8 (by decide) fl_X0_changeSetting_41 rfl dX0_changeSetting_35 ?_
        refine g_iload_n C dX0_changeSetting_38 2 rfl ?_
        obtain ⟨r4, er4, h⟩ := gb1 h
        refine g_callVi (rest := []) C gX0_changeSetting_X3_at rfl ok_X3_at ⟨by decide, by decide⟩ ⟨rfl, rfl⟩ 17 2 (by decide) (adc := fun i => ad (17 + i)) (fun _ _ => rfl) (dskE_row 8 (by decide)) 0 (by decide) rfl rfl (fun hI => cn_X3_at X.2.1 Z (fun i => ad (17 + i)) hI 2 (d 8) v1 er4) rfl dX0_changeSetting_39 rfl (Nat.le_of_ble_eq_true rfl) (dskE Z.2.1 ad d) (dskE_id 8 (by decide)) ?_
        refine g_istore C dX0_changeSetting_42 (by decide) [(4, .int r4), (3, .int 16), (0, .ref (ad 0)), (1, .int v1), (2, .int v2)] rfl ?_
        refine g_aload_n C dX0_changeSetting_44 2 rfl ?_
        refine g_getf (v := .ref (ad 17)) C 0 (by decide) rfl rfl in_X0_changeSetting 8 (by decide) fl_X0_changeSetting_41 rfl dX0_changeSetting_45 ?_
        refine g_iload_n C dX0_changeSetting_48 3 rfl ?_
        refine g_iload_n C dX0_changeSetting_49 4 rfl ?_
        obtain ⟨w5, ew5, h⟩ := gb1 h
        obtain ⟨d6, ed6, h⟩ := gl h
        refine g_callVv (rest := []) C gX0_changeSetting_X3_put rfl ok_X3_put ⟨by decide, by decide⟩ ⟨rfl, rfl⟩ 17 2 (by decide) (adc := fun i => ad (17 + i)) (fun _ _ => rfl) (dskE_row 8 (by decide)) 0 (by decide) rfl rfl (fun hI => cn_X3_put X.2.1 Z (fun i => ad (17 + i)) hI 2 (d 8) v1 v2 ew5) rfl dX0_changeSetting_50 rfl (Nat.le_of_ble_eq_true rfl) (dskE Z.2.1 ad d6) (by rw [ed6]; exact (dskE_up 8 (by decide))) ?_
        refine g_iload C dX0_changeSetting_53 0 rfl ?_
        obtain ⟨rfl, rfl⟩ := gs2 h
        exact g_iret C e dX0_changeSetting_55
      · replace h := gi_neg c3 h
        refine g_bipush (v := (-2)) C dX0_changeSetting_31 (by decide) ?_
        obtain ⟨rfl, rfl⟩ := gs2 h
        exact g_iret C e dX0_changeSetting_33
  · replace h := gi_neg c1 h
    refine g_iload_n C dX0_changeSetting_4 1 rfl ?_
    refine g_iconst (v := 1) C dX0_changeSetting_5 (by decide) ?_
    refine g_icmp_eq (tgt := 11) C dX0_changeSetting_6 (by decide) (fun c7 => ?_) (fun c7 => ?_)
    · replace h := gi_pos c7 h
      refine g_iload_n C dX0_changeSetting_11 1 rfl ?_
      refine g_if_ne (tgt := 20) C dX0_changeSetting_12 (by decide) (fun _ => ?_) (fun hc => absurd hc c1)
      refine g_iconst (v := 1) C dX0_changeSetting_20 (by decide) ?_
      refine g_istore_n C dX0_changeSetting_21 (by decide) [(3, .int 1), (0, .ref (ad 0)), (1, .int v1), (2, .int v2)] rfl ?_
      refine g_iload_n C dX0_changeSetting_22 3 rfl ?_
      refine g_if_lt (tgt := 31) C dX0_changeSetting_23 (by decide) (fun c8 => ?_) (fun c8 => ?_)
      · replace h := gi_pos c8 h
        refine g_bipush (v := (-2)) C dX0_changeSetting_31 (by decide) ?_
        obtain ⟨rfl, rfl⟩ := gs2 h
        exact g_iret C e dX0_changeSetting_33
      · replace h := gi_neg c8 h
        refine g_iload_n C dX0_changeSetting_26 3 rfl ?_
        refine g_iload_n C dX0_changeSetting_27 0 rfl ?_
        refine g_icmp_le (tgt := 34) C dX0_changeSetting_28 (by decide) (fun c9 => ?_) (fun c9 => ?_)
        · replace h := gi_pos c9 h
          refine g_aload_n C dX0_changeSetting_34 1 rfl ?_
          refine g_getf (v := .ref (ad 17)) C 0 (by decide) rfl rfl in_X0_changeSetting 8 (by decide) fl_X0_changeSetting_41 rfl dX0_changeSetting_35 ?_
          refine g_iload_n C dX0_changeSetting_38 2 rfl ?_
          obtain ⟨r10, er10, h⟩ := gb1 h
          refine g_callVi (rest := []) C gX0_changeSetting_X3_at rfl ok_X3_at ⟨by decide, by decide⟩ ⟨rfl, rfl⟩ 17 2 (by decide) (adc := fun i => ad (17 + i)) (fun _ _ => rfl) (dskE_row 8 (by decide)) 0 (by decide) rfl rfl (fun hI => cn_X3_at X.2.1 Z (fun i => ad (17 + i)) hI 2 (d 8) v1 er10) rfl dX0_changeSetting_39 rfl (Nat.le_of_ble_eq_true rfl) (dskE Z.2.1 ad d) (dskE_id 8 (by decide)) ?_
          refine g_istore C dX0_changeSetting_42 (by decide) [(4, .int r10), (3, .int 1), (0, .ref (ad 0)), (1, .int v1), (2, .int v2)] rfl ?_
          refine g_aload_n C dX0_changeSetting_44 2 rfl ?_
          refine g_getf (v := .ref (ad 17)) C 0 (by decide) rfl rfl in_X0_changeSetting 8 (by decide) fl_X0_changeSetting_41 rfl dX0_changeSetting_45 ?_
          refine g_iload_n C dX0_changeSetting_48 3 rfl ?_
          refine g_iload_n C dX0_changeSetting_49 4 rfl ?_
          obtain ⟨w11, ew11, h⟩ := gb1 h
          obtain ⟨d12, ed12, h⟩ := gl h
          refine g_callVv (rest := []) C gX0_changeSetting_X3_put rfl ok_X3_put ⟨by decide, by decide⟩ ⟨rfl, rfl⟩ 17 2 (by decide) (adc := fun i => ad (17 + i)) (fun _ _ => rfl) (dskE_row 8 (by decide)) 0 (by decide) rfl rfl (fun hI => cn_X3_put X.2.1 Z (fun i => ad (17 + i)) hI 2 (d 8) v1 v2 ew11) rfl dX0_changeSetting_50 rfl (Nat.le_of_ble_eq_true rfl) (dskE Z.2.1 ad d12) (by rw [ed12]; exact (dskE_up 8 (by decide))) ?_
          refine g_iload C dX0_changeSetting_53 0 rfl ?_
          obtain ⟨rfl, rfl⟩ := gs2 h
          exact g_iret C e dX0_changeSetting_55
        · replace h := gi_neg c9 h
          refine g_bipush (v := (-2)) C dX0_changeSetting_31 (by decide) ?_
          obtain ⟨rfl, rfl⟩ := gs2 h
          exact g_iret C e dX0_changeSetting_33
    · replace h := gi_neg c7 h
      refine g_iconst (v := (-1)) C dX0_changeSetting_9 (by decide) ?_
      obtain ⟨rfl, rfl⟩ := gs2 h
      exact g_iret C e dX0_changeSetting_10
abbrev rm_X0_ownerOf : Room := ({ frames := 1, cells := 0, slots := 0, locals := 21 } : Room)
def f_X0_ownerOf (d : Nat → Nat → Int32) (v1 : Int32) : Option Int32 := gb (f_X3_at 64 (d 1) v1) (fun r1 => some r1)
set_option maxRecDepth 20000 in
theorem in_X0_ownerOf : ∀ w ∈ wsX00, w ∈ wsX0_ownerOf := by decide +kernel
set_option maxRecDepth 20000 in
theorem fl_X0_ownerOf_20 : Cond.fieldLink RX0 20 (TX0 1).1 (TX0 1).2.1 (TX0 1).2.2.1 ∈ wsX0_ownerOf := by decide +kernel
set_option maxHeartbeats 4000000 in
set_option maxRecDepth 100000 in
theorem cn_X0_ownerOf (l : Launch) (Z : gZ) (ad : Nat → Nat) (hI : gInj 21 ad) (d : Nat → Nat → Int32) (v1 : Int32) {r : Int32} (h : f_X0_ownerOf d v1 = some r) : gI l yX0_ownerOf wsX0_ownerOf rm_X0_ownerOf Z 21 ad [.ref (ad 0), .int v1] (dskE Z.2.1 ad d) r (dskE Z.2.1 ad d) := by
  refine g_entryI (cc := cX0_ownerOf) (maxL := 2) (by decide +kernel) rfl hI (Nat.le_of_ble_eq_true rfl) (fun X C e => ?_)
  unfold f_X0_ownerOf at h
  show GG X Z 2 21 ad (dskE Z.2.1 ad d) 0 [(0, .ref (ad 0)), (1, .int v1)] []
  refine g_aload_n C dX0_ownerOf_0 0 rfl ?_
  refine g_getf (v := .ref (ad 3)) C 0 (by decide) rfl rfl in_X0_ownerOf 1 (by decide) fl_X0_ownerOf_20 rfl dX0_ownerOf_1 ?_
  refine g_iload_n C dX0_ownerOf_4 1 rfl ?_
  obtain ⟨r1, er1, h⟩ := gb1 h
  refine g_callVi (rest := []) C gX0_ownerOf_X3_at rfl ok_X3_at ⟨by decide, by decide⟩ ⟨rfl, rfl⟩ 3 2 (by decide) (adc := fun i => ad (3 + i)) (fun _ _ => rfl) (dskE_row 1 (by decide)) 0 (by decide) rfl rfl (fun hI => cn_X3_at X.2.1 Z (fun i => ad (3 + i)) hI 64 (d 1) v1 er1) rfl dX0_ownerOf_5 rfl (Nat.le_of_ble_eq_true rfl) (dskE Z.2.1 ad d) (dskE_id 1 (by decide)) ?_
  obtain rfl := gs1 h
  exact g_iret C e dX0_ownerOf_8
abbrev rm_X0_placeOf : Room := ({ frames := 1, cells := 0, slots := 0, locals := 21 } : Room)
def f_X0_placeOf (d : Nat → Nat → Int32) (v1 : Int32) : Option Int32 := gb (f_X3_at 64 (d 2) v1) (fun r1 => some r1)
set_option maxRecDepth 20000 in
theorem in_X0_placeOf : ∀ w ∈ wsX00, w ∈ wsX0_placeOf := by decide +kernel
set_option maxRecDepth 20000 in
theorem fl_X0_placeOf_23 : Cond.fieldLink RX0 23 (TX0 2).1 (TX0 2).2.1 (TX0 2).2.2.1 ∈ wsX0_placeOf := by decide +kernel
set_option maxHeartbeats 4000000 in
set_option maxRecDepth 100000 in
theorem cn_X0_placeOf (l : Launch) (Z : gZ) (ad : Nat → Nat) (hI : gInj 21 ad) (d : Nat → Nat → Int32) (v1 : Int32) {r : Int32} (h : f_X0_placeOf d v1 = some r) : gI l yX0_placeOf wsX0_placeOf rm_X0_placeOf Z 21 ad [.ref (ad 0), .int v1] (dskE Z.2.1 ad d) r (dskE Z.2.1 ad d) := by
  refine g_entryI (cc := cX0_placeOf) (maxL := 2) (by decide +kernel) rfl hI (Nat.le_of_ble_eq_true rfl) (fun X C e => ?_)
  unfold f_X0_placeOf at h
  show GG X Z 2 21 ad (dskE Z.2.1 ad d) 0 [(0, .ref (ad 0)), (1, .int v1)] []
  refine g_aload_n C dX0_placeOf_0 0 rfl ?_
  refine g_getf (v := .ref (ad 5)) C 0 (by decide) rfl rfl in_X0_placeOf 2 (by decide) fl_X0_placeOf_23 rfl dX0_placeOf_1 ?_
  refine g_iload_n C dX0_placeOf_4 1 rfl ?_
  obtain ⟨r1, er1, h⟩ := gb1 h
  refine g_callVi (rest := []) C gX0_placeOf_X3_at rfl ok_X3_at ⟨by decide, by decide⟩ ⟨rfl, rfl⟩ 5 2 (by decide) (adc := fun i => ad (5 + i)) (fun _ _ => rfl) (dskE_row 2 (by decide)) 0 (by decide) rfl rfl (fun hI => cn_X3_at X.2.1 Z (fun i => ad (5 + i)) hI 64 (d 2) v1 er1) rfl dX0_placeOf_5 rfl (Nat.le_of_ble_eq_true rfl) (dskE Z.2.1 ad d) (dskE_id 2 (by decide)) ?_
  obtain rfl := gs1 h
  exact g_iret C e dX0_placeOf_8
abbrev rm_X0_stampOf : Room := ({ frames := 1, cells := 0, slots := 0, locals := 21 } : Room)
def f_X0_stampOf (d : Nat → Nat → Int32) (v1 : Int32) : Option Int32 := gb (f_X3_at 64 (d 0) v1) (fun r1 => some r1)
set_option maxRecDepth 20000 in
theorem in_X0_stampOf : ∀ w ∈ wsX00, w ∈ wsX0_stampOf := by decide +kernel
set_option maxRecDepth 20000 in
theorem fl_X0_stampOf_14 : Cond.fieldLink RX0 14 (TX0 0).1 (TX0 0).2.1 (TX0 0).2.2.1 ∈ wsX0_stampOf := by decide +kernel
set_option maxHeartbeats 4000000 in
set_option maxRecDepth 100000 in
theorem cn_X0_stampOf (l : Launch) (Z : gZ) (ad : Nat → Nat) (hI : gInj 21 ad) (d : Nat → Nat → Int32) (v1 : Int32) {r : Int32} (h : f_X0_stampOf d v1 = some r) : gI l yX0_stampOf wsX0_stampOf rm_X0_stampOf Z 21 ad [.ref (ad 0), .int v1] (dskE Z.2.1 ad d) r (dskE Z.2.1 ad d) := by
  refine g_entryI (cc := cX0_stampOf) (maxL := 2) (by decide +kernel) rfl hI (Nat.le_of_ble_eq_true rfl) (fun X C e => ?_)
  unfold f_X0_stampOf at h
  show GG X Z 2 21 ad (dskE Z.2.1 ad d) 0 [(0, .ref (ad 0)), (1, .int v1)] []
  refine g_aload_n C dX0_stampOf_0 0 rfl ?_
  refine g_getf (v := .ref (ad 1)) C 0 (by decide) rfl rfl in_X0_stampOf 0 (by decide) fl_X0_stampOf_14 rfl dX0_stampOf_1 ?_
  refine g_iload_n C dX0_stampOf_4 1 rfl ?_
  obtain ⟨r1, er1, h⟩ := gb1 h
  refine g_callVi (rest := []) C gX0_stampOf_X3_at rfl ok_X3_at ⟨by decide, by decide⟩ ⟨rfl, rfl⟩ 1 2 (by decide) (adc := fun i => ad (1 + i)) (fun _ _ => rfl) (dskE_row 0 (by decide)) 0 (by decide) rfl rfl (fun hI => cn_X3_at X.2.1 Z (fun i => ad (1 + i)) hI 64 (d 0) v1 er1) rfl dX0_stampOf_5 rfl (Nat.le_of_ble_eq_true rfl) (dskE Z.2.1 ad d) (dskE_id 0 (by decide)) ?_
  obtain rfl := gs1 h
  exact g_iret C e dX0_stampOf_8
abbrev rm_X0_useOf : Room := ({ frames := 1, cells := 0, slots := 0, locals := 22 } : Room)
def f_X0_useOf (d : Nat → Nat → Int32) (v1 : Int32) : Option Int32 := gb (f_X3_holds 64 (d 1) v1 (-5)) (fun r1 => if r1 = 0 then gb (f_X3_at 64 (d 2) v1) (fun r3 => gb (f_X3_at 64 (d 1) v1) (fun r4 => gb (f_X3_at 8 (d 5) r4) (fun r5 => if r5 ≤ r3 then some 2 else some 1))) else some 0)
set_option maxRecDepth 20000 in
theorem in_X0_useOf : ∀ w ∈ wsX00, w ∈ wsX0_useOf := by decide +kernel
set_option maxRecDepth 20000 in
theorem fl_X0_useOf_20 : Cond.fieldLink RX0 20 (TX0 1).1 (TX0 1).2.1 (TX0 1).2.2.1 ∈ wsX0_useOf := by decide +kernel
set_option maxRecDepth 20000 in
theorem fl_X0_useOf_32 : Cond.fieldLink RX0 32 (TX0 5).1 (TX0 5).2.1 (TX0 5).2.2.1 ∈ wsX0_useOf := by decide +kernel
set_option maxRecDepth 20000 in
theorem fl_X0_useOf_23 : Cond.fieldLink RX0 23 (TX0 2).1 (TX0 2).2.1 (TX0 2).2.2.1 ∈ wsX0_useOf := by decide +kernel
set_option maxHeartbeats 4000000 in
set_option maxRecDepth 100000 in
theorem cn_X0_useOf (l : Launch) (Z : gZ) (ad : Nat → Nat) (hI : gInj 21 ad) (d : Nat → Nat → Int32) (v1 : Int32) {r : Int32} (h : f_X0_useOf d v1 = some r) : gI l yX0_useOf wsX0_useOf rm_X0_useOf Z 21 ad [.ref (ad 0), .int v1] (dskE Z.2.1 ad d) r (dskE Z.2.1 ad d) := by
  refine g_entryI (cc := cX0_useOf) (maxL := 2) (by decide +kernel) rfl hI (Nat.le_of_ble_eq_true rfl) (fun X C e => ?_)
  unfold f_X0_useOf at h
  show GG X Z 2 21 ad (dskE Z.2.1 ad d) 0 [(0, .ref (ad 0)), (1, .int v1)] []
  refine g_aload_n C dX0_useOf_0 0 rfl ?_
  refine g_getf (v := .ref (ad 3)) C 0 (by decide) rfl rfl in_X0_useOf 1 (by decide) fl_X0_useOf_20 rfl dX0_useOf_1 ?_
  refine g_iload_n C dX0_useOf_4 1 rfl ?_
  refine g_bipush (v := (-5)) C dX0_useOf_5 (by decide) ?_
  obtain ⟨r1, er1, h⟩ := gb1 h
  refine g_callVi (rest := []) C gX0_useOf_X3_holds rfl ok_X3_holds ⟨by decide, by decide⟩ ⟨rfl, rfl⟩ 3 2 (by decide) (adc := fun i => ad (3 + i)) (fun _ _ => rfl) (dskE_row 1 (by decide)) 0 (by decide) rfl rfl (fun hI => cn_X3_holds X.2.1 Z (fun i => ad (3 + i)) hI 64 (d 1) v1 (-5) er1) rfl dX0_useOf_7 rfl (Nat.le_of_ble_eq_true rfl) (dskE Z.2.1 ad d) (dskE_id 1 (by decide)) ?_
  refine g_if_eq (tgt := 15) C dX0_useOf_10 (by decide) (fun c2 => ?_) (fun c2 => ?_)
  · replace h := gi_pos c2 h
    refine g_aload_n C dX0_useOf_15 0 rfl ?_
    refine g_getf (v := .ref (ad 5)) C 0 (by decide) rfl rfl in_X0_useOf 2 (by decide) fl_X0_useOf_23 rfl dX0_useOf_16 ?_
    refine g_iload_n C dX0_useOf_19 1 rfl ?_
    obtain ⟨r3, er3, h⟩ := gb1 h
    refine g_callVi (rest := []) C gX0_useOf_X3_at rfl ok_X3_at ⟨by decide, by decide⟩ ⟨rfl, rfl⟩ 5 2 (by decide) (adc := fun i => ad (5 + i)) (fun _ _ => rfl) (dskE_row 2 (by decide)) 0 (by decide) rfl rfl (fun hI => cn_X3_at X.2.1 Z (fun i => ad (5 + i)) hI 64 (d 2) v1 er3) rfl dX0_useOf_20 rfl (Nat.le_of_ble_eq_true rfl) (dskE Z.2.1 ad d) (dskE_id 2 (by decide)) ?_
    refine g_aload_n C dX0_useOf_23 0 rfl ?_
    refine g_getf (v := .ref (ad 11)) C 0 (by decide) rfl rfl in_X0_useOf 5 (by decide) fl_X0_useOf_32 rfl dX0_useOf_24 ?_
    refine g_aload_n C dX0_useOf_27 0 rfl ?_
    refine g_getf (v := .ref (ad 3)) C 0 (by decide) rfl rfl in_X0_useOf 1 (by decide) fl_X0_useOf_20 rfl dX0_useOf_28 ?_
    refine g_iload_n C dX0_useOf_31 1 rfl ?_
    obtain ⟨r4, er4, h⟩ := gb1 h
    refine g_callVi (rest := [.ref (ad 11), .int r3]) C gX0_useOf_X3_at rfl ok_X3_at ⟨by decide, by decide⟩ ⟨rfl, rfl⟩ 3 2 (by decide) (adc := fun i => ad (3 + i)) (fun _ _ => rfl) (dskE_row 1 (by decide)) 0 (by decide) rfl rfl (fun hI => cn_X3_at X.2.1 Z (fun i => ad (3 + i)) hI 64 (d 1) v1 er4) rfl dX0_useOf_32 rfl (Nat.le_of_ble_eq_true rfl) (dskE Z.2.1 ad d) (dskE_id 1 (by decide)) ?_
    obtain ⟨r5, er5, h⟩ := gb1 h
    refine g_callVi (rest := [.int r3]) C gX0_useOf_X3_at rfl ok_X3_at ⟨by decide, by decide⟩ ⟨rfl, rfl⟩ 11 2 (by decide) (adc := fun i => ad (11 + i)) (fun _ _ => rfl) (dskE_row 5 (by decide)) 0 (by decide) rfl rfl (fun hI => cn_X3_at X.2.1 Z (fun i => ad (11 + i)) hI 8 (d 5) r4 er5) rfl dX0_useOf_35 rfl (Nat.le_of_ble_eq_true rfl) (dskE Z.2.1 ad d) (dskE_id 5 (by decide)) ?_
    refine g_icmp_ge (tgt := 45) C dX0_useOf_38 (by decide) (fun c6 => ?_) (fun c6 => ?_)
    · replace h := gi_pos c6 h
      refine g_iconst (v := 2) C dX0_useOf_45 (by decide) ?_
      obtain rfl := gs1 h
      exact g_iret C e dX0_useOf_46
    · replace h := gi_neg c6 h
      refine g_iconst (v := 1) C dX0_useOf_41 (by decide) ?_
      refine g_goto (tgt := 46) C dX0_useOf_42 (by decide) ?_
      obtain rfl := gs1 h
      exact g_iret C e dX0_useOf_46
  · replace h := gi_neg c2 h
    refine g_iconst (v := 0) C dX0_useOf_13 (by decide) ?_
    obtain rfl := gs1 h
    exact g_iret C e dX0_useOf_14
abbrev rm_X0_sizeOf : Room := ({ frames := 1, cells := 0, slots := 0, locals := 21 } : Room)
def f_X0_sizeOf (d : Nat → Nat → Int32) (v1 : Int32) : Option Int32 := gb (f_X3_at 8 (d 5) v1) (fun r1 => some r1)
set_option maxRecDepth 20000 in
theorem in_X0_sizeOf : ∀ w ∈ wsX00, w ∈ wsX0_sizeOf := by decide +kernel
set_option maxRecDepth 20000 in
theorem fl_X0_sizeOf_32 : Cond.fieldLink RX0 32 (TX0 5).1 (TX0 5).2.1 (TX0 5).2.2.1 ∈ wsX0_sizeOf := by decide +kernel
set_option maxHeartbeats 4000000 in
set_option maxRecDepth 100000 in
theorem cn_X0_sizeOf (l : Launch) (Z : gZ) (ad : Nat → Nat) (hI : gInj 21 ad) (d : Nat → Nat → Int32) (v1 : Int32) {r : Int32} (h : f_X0_sizeOf d v1 = some r) : gI l yX0_sizeOf wsX0_sizeOf rm_X0_sizeOf Z 21 ad [.ref (ad 0), .int v1] (dskE Z.2.1 ad d) r (dskE Z.2.1 ad d) := by
  refine g_entryI (cc := cX0_sizeOf) (maxL := 2) (by decide +kernel) rfl hI (Nat.le_of_ble_eq_true rfl) (fun X C e => ?_)
  unfold f_X0_sizeOf at h
  show GG X Z 2 21 ad (dskE Z.2.1 ad d) 0 [(0, .ref (ad 0)), (1, .int v1)] []
  refine g_aload_n C dX0_sizeOf_0 0 rfl ?_
  refine g_getf (v := .ref (ad 11)) C 0 (by decide) rfl rfl in_X0_sizeOf 5 (by decide) fl_X0_sizeOf_32 rfl dX0_sizeOf_1 ?_
  refine g_iload_n C dX0_sizeOf_4 1 rfl ?_
  obtain ⟨r1, er1, h⟩ := gb1 h
  refine g_callVi (rest := []) C gX0_sizeOf_X3_at rfl ok_X3_at ⟨by decide, by decide⟩ ⟨rfl, rfl⟩ 11 2 (by decide) (adc := fun i => ad (11 + i)) (fun _ _ => rfl) (dskE_row 5 (by decide)) 0 (by decide) rfl rfl (fun hI => cn_X3_at X.2.1 Z (fun i => ad (11 + i)) hI 8 (d 5) v1 er1) rfl dX0_sizeOf_5 rfl (Nat.le_of_ble_eq_true rfl) (dskE Z.2.1 ad d) (dskE_id 5 (by decide)) ?_
  obtain rfl := gs1 h
  exact g_iret C e dX0_sizeOf_8
abbrev rm_X0_safeSizeOf : Room := ({ frames := 1, cells := 0, slots := 0, locals := 21 } : Room)
def f_X0_safeSizeOf (d : Nat → Nat → Int32) (v1 : Int32) : Option Int32 := gb (f_X3_at 8 (d 6) v1) (fun r1 => some r1)
set_option maxRecDepth 20000 in
theorem in_X0_safeSizeOf : ∀ w ∈ wsX00, w ∈ wsX0_safeSizeOf := by decide +kernel
set_option maxRecDepth 20000 in
theorem fl_X0_safeSizeOf_35 : Cond.fieldLink RX0 35 (TX0 6).1 (TX0 6).2.1 (TX0 6).2.2.1 ∈ wsX0_safeSizeOf := by decide +kernel
set_option maxHeartbeats 4000000 in
set_option maxRecDepth 100000 in
theorem cn_X0_safeSizeOf (l : Launch) (Z : gZ) (ad : Nat → Nat) (hI : gInj 21 ad) (d : Nat → Nat → Int32) (v1 : Int32) {r : Int32} (h : f_X0_safeSizeOf d v1 = some r) : gI l yX0_safeSizeOf wsX0_safeSizeOf rm_X0_safeSizeOf Z 21 ad [.ref (ad 0), .int v1] (dskE Z.2.1 ad d) r (dskE Z.2.1 ad d) := by
  refine g_entryI (cc := cX0_safeSizeOf) (maxL := 2) (by decide +kernel) rfl hI (Nat.le_of_ble_eq_true rfl) (fun X C e => ?_)
  unfold f_X0_safeSizeOf at h
  show GG X Z 2 21 ad (dskE Z.2.1 ad d) 0 [(0, .ref (ad 0)), (1, .int v1)] []
  refine g_aload_n C dX0_safeSizeOf_0 0 rfl ?_
  refine g_getf (v := .ref (ad 13)) C 0 (by decide) rfl rfl in_X0_safeSizeOf 6 (by decide) fl_X0_safeSizeOf_35 rfl dX0_safeSizeOf_1 ?_
  refine g_iload_n C dX0_safeSizeOf_4 1 rfl ?_
  obtain ⟨r1, er1, h⟩ := gb1 h
  refine g_callVi (rest := []) C gX0_safeSizeOf_X3_at rfl ok_X3_at ⟨by decide, by decide⟩ ⟨rfl, rfl⟩ 13 2 (by decide) (adc := fun i => ad (13 + i)) (fun _ _ => rfl) (dskE_row 6 (by decide)) 0 (by decide) rfl rfl (fun hI => cn_X3_at X.2.1 Z (fun i => ad (13 + i)) hI 8 (d 6) v1 er1) rfl dX0_safeSizeOf_5 rfl (Nat.le_of_ble_eq_true rfl) (dskE Z.2.1 ad d) (dskE_id 6 (by decide)) ?_
  obtain rfl := gs1 h
  exact g_iret C e dX0_safeSizeOf_8
abbrev rm_X0_lendOf : Room := ({ frames := 1, cells := 0, slots := 0, locals := 21 } : Room)
def f_X0_lendOf (d : Nat → Nat → Int32) (v1 : Int32) : Option Int32 := gb (f_X3_at 8 (d 7) v1) (fun r1 => some r1)
set_option maxRecDepth 20000 in
theorem in_X0_lendOf : ∀ w ∈ wsX00, w ∈ wsX0_lendOf := by decide +kernel
set_option maxRecDepth 20000 in
theorem fl_X0_lendOf_38 : Cond.fieldLink RX0 38 (TX0 7).1 (TX0 7).2.1 (TX0 7).2.2.1 ∈ wsX0_lendOf := by decide +kernel
set_option maxHeartbeats 4000000 in
set_option maxRecDepth 100000 in
theorem cn_X0_lendOf (l : Launch) (Z : gZ) (ad : Nat → Nat) (hI : gInj 21 ad) (d : Nat → Nat → Int32) (v1 : Int32) {r : Int32} (h : f_X0_lendOf d v1 = some r) : gI l yX0_lendOf wsX0_lendOf rm_X0_lendOf Z 21 ad [.ref (ad 0), .int v1] (dskE Z.2.1 ad d) r (dskE Z.2.1 ad d) := by
  refine g_entryI (cc := cX0_lendOf) (maxL := 2) (by decide +kernel) rfl hI (Nat.le_of_ble_eq_true rfl) (fun X C e => ?_)
  unfold f_X0_lendOf at h
  show GG X Z 2 21 ad (dskE Z.2.1 ad d) 0 [(0, .ref (ad 0)), (1, .int v1)] []
  refine g_aload_n C dX0_lendOf_0 0 rfl ?_
  refine g_getf (v := .ref (ad 15)) C 0 (by decide) rfl rfl in_X0_lendOf 7 (by decide) fl_X0_lendOf_38 rfl dX0_lendOf_1 ?_
  refine g_iload_n C dX0_lendOf_4 1 rfl ?_
  obtain ⟨r1, er1, h⟩ := gb1 h
  refine g_callVi (rest := []) C gX0_lendOf_X3_at rfl ok_X3_at ⟨by decide, by decide⟩ ⟨rfl, rfl⟩ 15 2 (by decide) (adc := fun i => ad (15 + i)) (fun _ _ => rfl) (dskE_row 7 (by decide)) 0 (by decide) rfl rfl (fun hI => cn_X3_at X.2.1 Z (fun i => ad (15 + i)) hI 8 (d 7) v1 er1) rfl dX0_lendOf_5 rfl (Nat.le_of_ble_eq_true rfl) (dskE Z.2.1 ad d) (dskE_id 7 (by decide)) ?_
  obtain rfl := gs1 h
  exact g_iret C e dX0_lendOf_8
abbrev rm_X0_placeOfExtent : Room := ({ frames := 2, cells := 0, slots := 0, locals := 45 } : Room)
def f_X0_placeOfExtent_L5 (d : Nat → Nat → Int32) (v1 : Int32) (v2 : Int32) : Nat → Int32 → Int32 → Option Int32
  | 0, _, _ => none
  | fu + 1, v3, v4 => gb (f_X3_at 8 (d 4) v1) (fun r1 => if r1 ≤ v4 then some (-5) else gb (f_X0_blockAt d v1 v4) (fun r3 => gb (f_X0_beginsExtent d r3) (fun r4 => if r4 = 0 then glet (v4 + 1) (fun x6 => f_X0_placeOfExtent_L5 d v1 v2 fu v3 x6) else if v3 = v2 then some v4 else glet (v3 + 1) (fun x8 => glet (v4 + 1) (fun x9 => f_X0_placeOfExtent_L5 d v1 v2 fu x8 x9)))))
def f_X0_placeOfExtent (d : Nat → Nat → Int32) (v1 : Int32) (v2 : Int32) : Option Int32 := f_X0_placeOfExtent_L5 d v1 v2 gFu 0 0
set_option maxRecDepth 20000 in
theorem in_X0_placeOfExtent : ∀ w ∈ wsX00, w ∈ wsX0_placeOfExtent := by decide +kernel
set_option maxRecDepth 20000 in
theorem fl_X0_placeOfExtent_29 : Cond.fieldLink RX0 29 (TX0 4).1 (TX0 4).2.1 (TX0 4).2.2.1 ∈ wsX0_placeOfExtent := by decide +kernel
set_option maxHeartbeats 4000000 in
set_option maxRecDepth 100000 in
theorem cl_X0_placeOfExtent_L5 {X : gX} {Z : gZ} {ad : Nat → Nat} {d : Nat → Nat → Int32} {r : Int32} (C : GC X Z cX0_placeOfExtent 5 wsX0_placeOfExtent RX0 rm_X0_placeOfExtent 21 ad) (e : gEI X Z 21 ad .int r (dskE Z.2.1 ad d)) (v1 : Int32) (v2 : Int32) : ∀ (fu : Nat) (v3 : Int32) (v4 : Int32) (h : f_X0_placeOfExtent_L5 d v1 v2 fu v3 v4 = some r), GG X Z 5 21 ad (dskE Z.2.1 ad d) 5 [(0, .ref (ad 0)), (1, .int v1), (2, .int v2), (3, .int v3), (4, .int v4)] [] := by
  intro fu
  induction fu with
  | zero => intro v3 v4 h; cases h
  | succ fu ih =>
    intro v3 v4 h
    rw [f_X0_placeOfExtent_L5] at h
    refine g_iload C dX0_placeOfExtent_5 4 rfl ?_
    refine g_aload_n C dX0_placeOfExtent_7 0 rfl ?_
    refine g_getf (v := .ref (ad 9)) C 0 (by decide) rfl rfl in_X0_placeOfExtent 4 (by decide) fl_X0_placeOfExtent_29 rfl dX0_placeOfExtent_8 ?_
    refine g_iload_n C dX0_placeOfExtent_11 1 rfl ?_
    obtain ⟨r1, er1, h⟩ := gb1 h
    refine g_callVi (rest := [.int v4]) C gX0_placeOfExtent_X3_at rfl ok_X3_at ⟨by decide, by decide⟩ ⟨rfl, rfl⟩ 9 2 (by decide) (adc := fun i => ad (9 + i)) (fun _ _ => rfl) (dskE_row 4 (by decide)) 0 (by decide) rfl rfl (fun hI => cn_X3_at X.2.1 Z (fun i => ad (9 + i)) hI 8 (d 4) v1 er1) rfl dX0_placeOfExtent_12 rfl (Nat.le_of_ble_eq_true rfl) (dskE Z.2.1 ad d) (dskE_id 4 (by decide)) ?_
    refine g_icmp_ge (tgt := 49) C dX0_placeOfExtent_15 (by decide) (fun c2 => ?_) (fun c2 => ?_)
    · replace h := gi_pos c2 h
      refine g_bipush (v := (-5)) C dX0_placeOfExtent_49 (by decide) ?_
      obtain rfl := gs1 h
      exact g_iret C e dX0_placeOfExtent_51
    · replace h := gi_neg c2 h
      refine g_aload_n C dX0_placeOfExtent_18 0 rfl ?_
      refine g_aload_n C dX0_placeOfExtent_19 0 rfl ?_
      refine g_iload_n C dX0_placeOfExtent_20 1 rfl ?_
      refine g_iload C dX0_placeOfExtent_21 4 rfl ?_
      obtain ⟨r3, er3, h⟩ := gb1 h
      refine g_callWi (rest := [.ref (ad 0)]) C gX0_placeOfExtent_X0_blockAt rfl ok_X0_blockAt ⟨by decide, by decide⟩ ⟨rfl, rfl⟩ 0 (by decide) rfl rfl (fun hI => cn_X0_blockAt X.2.1 Z ad hI d v1 v4 er3) rfl dX0_placeOfExtent_23 rfl (Nat.le_of_ble_eq_true rfl) ?_
      obtain ⟨r4, er4, h⟩ := gb1 h
      refine g_callWi (rest := []) C gX0_placeOfExtent_X0_beginsExtent rfl ok_X0_beginsExtent ⟨by decide, by decide⟩ ⟨rfl, rfl⟩ 0 (by decide) rfl rfl (fun hI => cn_X0_beginsExtent X.2.1 Z ad hI d r3 er4) rfl dX0_placeOfExtent_26 rfl (Nat.le_of_ble_eq_true rfl) ?_
      refine g_if_eq (tgt := 43) C dX0_placeOfExtent_29 (by decide) (fun c5 => ?_) (fun c5 => ?_)
      · replace h := gi_pos c5 h
        obtain ⟨x6, ex6, h⟩ := gl h
        refine g_iinc (v := x6) C dX0_placeOfExtent_43 4 rfl (by rw [ex6]; rfl) (by decide) [(4, .int x6), (0, .ref (ad 0)), (1, .int v1), (2, .int v2), (3, .int v3)] rfl ?_
        refine g_goto (tgt := 5) C dX0_placeOfExtent_46 (by decide) ?_
        exact g_sub [1, 2, 3, 4, 0] rfl (ih v3 x6 h)
      · replace h := gi_neg c5 h
        refine g_iload_n C dX0_placeOfExtent_32 3 rfl ?_
        refine g_iload_n C dX0_placeOfExtent_33 2 rfl ?_
        refine g_icmp_ne (tgt := 40) C dX0_placeOfExtent_34 (by decide) (fun c7 => ?_) (fun c7 => ?_)
        · replace h := gi_neg c7 h
          obtain ⟨x8, ex8, h⟩ := gl h
          refine g_iinc (v := x8) C dX0_placeOfExtent_40 3 rfl (by rw [ex8]; rfl) (by decide) [(3, .int x8), (0, .ref (ad 0)), (1, .int v1), (2, .int v2), (4, .int v4)] rfl ?_
          obtain ⟨x9, ex9, h⟩ := gl h
          refine g_iinc (v := x9) C dX0_placeOfExtent_43 4 rfl (by rw [ex9]; rfl) (by decide) [(4, .int x9), (3, .int x8), (0, .ref (ad 0)), (1, .int v1), (2, .int v2)] rfl ?_
          refine g_goto (tgt := 5) C dX0_placeOfExtent_46 (by decide) ?_
          exact g_sub [2, 3, 4, 1, 0] rfl (ih x8 x9 h)
        · replace h := gi_pos c7 h
          refine g_iload C dX0_placeOfExtent_37 4 rfl ?_
          obtain rfl := gs1 h
          exact g_iret C e dX0_placeOfExtent_39
set_option maxHeartbeats 4000000 in
set_option maxRecDepth 100000 in
theorem cn_X0_placeOfExtent (l : Launch) (Z : gZ) (ad : Nat → Nat) (hI : gInj 21 ad) (d : Nat → Nat → Int32) (v1 : Int32) (v2 : Int32) {r : Int32} (h : f_X0_placeOfExtent d v1 v2 = some r) : gI l yX0_placeOfExtent wsX0_placeOfExtent rm_X0_placeOfExtent Z 21 ad [.ref (ad 0), .int v1, .int v2] (dskE Z.2.1 ad d) r (dskE Z.2.1 ad d) := by
  refine g_entryI (cc := cX0_placeOfExtent) (maxL := 5) (by decide +kernel) rfl hI (Nat.le_of_ble_eq_true rfl) (fun X C e => ?_)
  unfold f_X0_placeOfExtent at h
  show GG X Z 5 21 ad (dskE Z.2.1 ad d) 0 [(0, .ref (ad 0)), (1, .int v1), (2, .int v2)] []
  refine g_iconst (v := 0) C dX0_placeOfExtent_0 (by decide) ?_
  refine g_istore_n C dX0_placeOfExtent_1 (by decide) [(3, .int 0), (0, .ref (ad 0)), (1, .int v1), (2, .int v2)] rfl ?_
  refine g_iconst (v := 0) C dX0_placeOfExtent_2 (by decide) ?_
  refine g_istore C dX0_placeOfExtent_3 (by decide) [(4, .int 0), (3, .int 0), (0, .ref (ad 0)), (1, .int v1), (2, .int v2)] rfl ?_
  exact g_sub [2, 3, 4, 1, 0] rfl (cl_X0_placeOfExtent_L5 C e v1 v2 gFu 0 0 h)
abbrev rm_X0_extentFrom : Room := ({ frames := 2, cells := 0, slots := 0, locals := 45 } : Room)
def f_X0_extentFrom_L4 (d : Nat → Nat → Int32) (v1 : Int32) (v2 : Int32) : Nat → Int32 → Option Int32
  | 0, _ => none
  | fu + 1, v3 => gb (f_X3_at 8 (d 4) v1) (fun r2 => if r2 ≤ v3 then some (v3 - v2) else gb (f_X0_blockAt d v1 v3) (fun r4 => gb (f_X0_beginsExtent d r4) (fun r5 => if r5 = 0 then glet (v3 + 1) (fun x7 => f_X0_extentFrom_L4 d v1 v2 fu x7) else some (v3 - v2))))
def f_X0_extentFrom (d : Nat → Nat → Int32) (v1 : Int32) (v2 : Int32) : Option Int32 := glet (v2 + 1) (fun x1 => f_X0_extentFrom_L4 d v1 v2 gFu x1)
set_option maxRecDepth 20000 in
theorem in_X0_extentFrom : ∀ w ∈ wsX00, w ∈ wsX0_extentFrom := by decide +kernel
set_option maxRecDepth 20000 in
theorem fl_X0_extentFrom_29 : Cond.fieldLink RX0 29 (TX0 4).1 (TX0 4).2.1 (TX0 4).2.2.1 ∈ wsX0_extentFrom := by decide +kernel
set_option maxHeartbeats 4000000 in
set_option maxRecDepth 100000 in
theorem cl_X0_extentFrom_L4 {X : gX} {Z : gZ} {ad : Nat → Nat} {d : Nat → Nat → Int32} {r : Int32} (C : GC X Z cX0_extentFrom 4 wsX0_extentFrom RX0 rm_X0_extentFrom 21 ad) (e : gEI X Z 21 ad .int r (dskE Z.2.1 ad d)) (v1 : Int32) (v2 : Int32) : ∀ (fu : Nat) (v3 : Int32) (h : f_X0_extentFrom_L4 d v1 v2 fu v3 = some r), GG X Z 4 21 ad (dskE Z.2.1 ad d) 4 [(0, .ref (ad 0)), (1, .int v1), (2, .int v2), (3, .int v3)] [] := by
  intro fu
  induction fu with
  | zero => intro v3 h; cases h
  | succ fu ih =>
    intro v3 h
    rw [f_X0_extentFrom_L4] at h
    refine g_iload_n C dX0_extentFrom_4 3 rfl ?_
    refine g_aload_n C dX0_extentFrom_5 0 rfl ?_
    refine g_getf (v := .ref (ad 9)) C 0 (by decide) rfl rfl in_X0_extentFrom 4 (by decide) fl_X0_extentFrom_29 rfl dX0_extentFrom_6 ?_
    refine g_iload_n C dX0_extentFrom_9 1 rfl ?_
    obtain ⟨r2, er2, h⟩ := gb1 h
    refine g_callVi (rest := [.int v3]) C gX0_extentFrom_X3_at rfl ok_X3_at ⟨by decide, by decide⟩ ⟨rfl, rfl⟩ 9 2 (by decide) (adc := fun i => ad (9 + i)) (fun _ _ => rfl) (dskE_row 4 (by decide)) 0 (by decide) rfl rfl (fun hI => cn_X3_at X.2.1 Z (fun i => ad (9 + i)) hI 8 (d 4) v1 er2) rfl dX0_extentFrom_10 rfl (Nat.le_of_ble_eq_true rfl) (dskE Z.2.1 ad d) (dskE_id 4 (by decide)) ?_
    refine g_icmp_ge (tgt := 35) C dX0_extentFrom_13 (by decide) (fun c3 => ?_) (fun c3 => ?_)
    · replace h := gi_pos c3 h
      refine g_iload_n C dX0_extentFrom_35 3 rfl ?_
      refine g_iload_n C dX0_extentFrom_36 2 rfl ?_
      refine g_isub C dX0_extentFrom_37 ?_
      obtain rfl := gs1 h
      exact g_iret C e dX0_extentFrom_38
    · replace h := gi_neg c3 h
      refine g_aload_n C dX0_extentFrom_16 0 rfl ?_
      refine g_aload_n C dX0_extentFrom_17 0 rfl ?_
      refine g_iload_n C dX0_extentFrom_18 1 rfl ?_
      refine g_iload_n C dX0_extentFrom_19 3 rfl ?_
      obtain ⟨r4, er4, h⟩ := gb1 h
      refine g_callWi (rest := [.ref (ad 0)]) C gX0_extentFrom_X0_blockAt rfl ok_X0_blockAt ⟨by decide, by decide⟩ ⟨rfl, rfl⟩ 0 (by decide) rfl rfl (fun hI => cn_X0_blockAt X.2.1 Z ad hI d v1 v3 er4) rfl dX0_extentFrom_20 rfl (Nat.le_of_ble_eq_true rfl) ?_
      obtain ⟨r5, er5, h⟩ := gb1 h
      refine g_callWi (rest := []) C gX0_extentFrom_X0_beginsExtent rfl ok_X0_beginsExtent ⟨by decide, by decide⟩ ⟨rfl, rfl⟩ 0 (by decide) rfl rfl (fun hI => cn_X0_beginsExtent X.2.1 Z ad hI d r4 er5) rfl dX0_extentFrom_23 rfl (Nat.le_of_ble_eq_true rfl) ?_
      refine g_if_ne (tgt := 35) C dX0_extentFrom_26 (by decide) (fun c6 => ?_) (fun c6 => ?_)
      · replace h := gi_neg c6 h
        refine g_iload_n C dX0_extentFrom_35 3 rfl ?_
        refine g_iload_n C dX0_extentFrom_36 2 rfl ?_
        refine g_isub C dX0_extentFrom_37 ?_
        obtain rfl := gs1 h
        exact g_iret C e dX0_extentFrom_38
      · replace h := gi_pos c6 h
        obtain ⟨x7, ex7, h⟩ := gl h
        refine g_iinc (v := x7) C dX0_extentFrom_29 3 rfl (by rw [ex7]; rfl) (by decide) [(3, .int x7), (0, .ref (ad 0)), (1, .int v1), (2, .int v2)] rfl ?_
        refine g_goto (tgt := 4) C dX0_extentFrom_32 (by decide) ?_
        exact g_sub [1, 2, 3, 0] rfl (ih x7 h)
set_option maxHeartbeats 4000000 in
set_option maxRecDepth 100000 in
theorem cn_X0_extentFrom (l : Launch) (Z : gZ) (ad : Nat → Nat) (hI : gInj 21 ad) (d : Nat → Nat → Int32) (v1 : Int32) (v2 : Int32) {r : Int32} (h : f_X0_extentFrom d v1 v2 = some r) : gI l yX0_extentFrom wsX0_extentFrom rm_X0_extentFrom Z 21 ad [.ref (ad 0), .int v1, .int v2] (dskE Z.2.1 ad d) r (dskE Z.2.1 ad d) := by
  refine g_entryI (cc := cX0_extentFrom) (maxL := 4) (by decide +kernel) rfl hI (Nat.le_of_ble_eq_true rfl) (fun X C e => ?_)
  unfold f_X0_extentFrom at h
  show GG X Z 4 21 ad (dskE Z.2.1 ad d) 0 [(0, .ref (ad 0)), (1, .int v1), (2, .int v2)] []
  refine g_iload_n C dX0_extentFrom_0 2 rfl ?_
  refine g_iconst (v := 1) C dX0_extentFrom_1 (by decide) ?_
  refine g_iadd C dX0_extentFrom_2 ?_
  obtain ⟨x1, ex1, h⟩ := gl h
  refine g_istore_n C dX0_extentFrom_3 (by decide) [(3, .int x1), (0, .ref (ad 0)), (1, .int v1), (2, .int v2)] (by rw [ex1]; rfl) ?_
  exact g_sub [1, 2, 3, 0] rfl (cl_X0_extentFrom_L4 C e v1 v2 gFu x1 h)
abbrev rm_X0_sumOfStamps : Room := ({ frames := 2, cells := 0, slots := 0, locals := 46 } : Room)
def f_X0_sumOfStamps_L6 (d : Nat → Nat → Int32) (v1 : Int32) (v2 : Int32) (v3 : Int32) : Nat → Int32 → Int32 → Option Int32
  | 0, _, _ => none
  | fu + 1, v4, v5 => if 64 ≤ v5 then some v4 else gb (f_X0_isPart d v5 v1 v2 v3) (fun r2 => if r2 = 0 then glet (v5 + 1) (fun x4 => f_X0_sumOfStamps_L6 d v1 v2 v3 fu v4 x4) else gb (f_X3_at 64 (d 0) v5) (fun r5 => glet (v4 + r5) (fun x6 => glet (v5 + 1) (fun x7 => f_X0_sumOfStamps_L6 d v1 v2 v3 fu x6 x7))))
def f_X0_sumOfStamps (d : Nat → Nat → Int32) (v1 : Int32) (v2 : Int32) (v3 : Int32) : Option Int32 := f_X0_sumOfStamps_L6 d v1 v2 v3 gFu 0 0
set_option maxRecDepth 20000 in
theorem in_X0_sumOfStamps : ∀ w ∈ wsX00, w ∈ wsX0_sumOfStamps := by decide +kernel
set_option maxRecDepth 20000 in
theorem fl_X0_sumOfStamps_14 : Cond.fieldLink RX0 14 (TX0 0).1 (TX0 0).2.1 (TX0 0).2.2.1 ∈ wsX0_sumOfStamps := by decide +kernel
set_option maxHeartbeats 4000000 in
set_option maxRecDepth 100000 in
theorem cl_X0_sumOfStamps_L6 {X : gX} {Z : gZ} {ad : Nat → Nat} {d : Nat → Nat → Int32} {r : Int32} (C : GC X Z cX0_sumOfStamps 6 wsX0_sumOfStamps RX0 rm_X0_sumOfStamps 21 ad) (e : gEI X Z 21 ad .int r (dskE Z.2.1 ad d)) (v1 : Int32) (v2 : Int32) (v3 : Int32) : ∀ (fu : Nat) (v4 : Int32) (v5 : Int32) (h : f_X0_sumOfStamps_L6 d v1 v2 v3 fu v4 v5 = some r), GG X Z 6 21 ad (dskE Z.2.1 ad d) 6 [(0, .ref (ad 0)), (1, .int v1), (2, .int v2), (3, .int v3), (4, .int v4), (5, .int v5)] [] := by
  intro fu
  induction fu with
  | zero => intro v4 v5 h; cases h
  | succ fu ih =>
    intro v4 v5 h
    rw [f_X0_sumOfStamps_L6] at h
    refine g_iload C dX0_sumOfStamps_6 5 rfl ?_
    refine g_bipush (v := 64) C dX0_sumOfStamps_8 (by decide) ?_
    refine g_icmp_ge (tgt := 45) C dX0_sumOfStamps_10 (by decide) (fun c1 => ?_) (fun c1 => ?_)
    · replace h := gi_pos c1 h
      refine g_iload C dX0_sumOfStamps_45 4 rfl ?_
      obtain rfl := gs1 h
      exact g_iret C e dX0_sumOfStamps_47
    · replace h := gi_neg c1 h
      refine g_aload_n C dX0_sumOfStamps_13 0 rfl ?_
      refine g_iload C dX0_sumOfStamps_14 5 rfl ?_
      refine g_iload_n C dX0_sumOfStamps_16 1 rfl ?_
      refine g_iload_n C dX0_sumOfStamps_17 2 rfl ?_
      refine g_iload_n C dX0_sumOfStamps_18 3 rfl ?_
      obtain ⟨r2, er2, h⟩ := gb1 h
      refine g_callWi (rest := []) C gX0_sumOfStamps_X0_isPart rfl ok_X0_isPart ⟨by decide, by decide⟩ ⟨rfl, rfl⟩ 0 (by decide) rfl rfl (fun hI => cn_X0_isPart X.2.1 Z ad hI d v5 v1 v2 v3 er2) rfl dX0_sumOfStamps_19 rfl (Nat.le_of_ble_eq_true rfl) ?_
      refine g_if_eq (tgt := 39) C dX0_sumOfStamps_22 (by decide) (fun c3 => ?_) (fun c3 => ?_)
      · replace h := gi_pos c3 h
        obtain ⟨x4, ex4, h⟩ := gl h
        refine g_iinc (v := x4) C dX0_sumOfStamps_39 5 rfl (by rw [ex4]; rfl) (by decide) [(5, .int x4), (0, .ref (ad 0)), (1, .int v1), (2, .int v2), (3, .int v3), (4, .int v4)] rfl ?_
        refine g_goto (tgt := 6) C dX0_sumOfStamps_42 (by decide) ?_
        exact g_sub [1, 2, 3, 4, 5, 0] rfl (ih v4 x4 h)
      · replace h := gi_neg c3 h
        refine g_iload C dX0_sumOfStamps_25 4 rfl ?_
        refine g_aload_n C dX0_sumOfStamps_27 0 rfl ?_
        refine g_getf (v := .ref (ad 1)) C 0 (by decide) rfl rfl in_X0_sumOfStamps 0 (by decide) fl_X0_sumOfStamps_14 rfl dX0_sumOfStamps_28 ?_
        refine g_iload C dX0_sumOfStamps_31 5 rfl ?_
        obtain ⟨r5, er5, h⟩ := gb1 h
        refine g_callVi (rest := [.int v4]) C gX0_sumOfStamps_X3_at rfl ok_X3_at ⟨by decide, by decide⟩ ⟨rfl, rfl⟩ 1 2 (by decide) (adc := fun i => ad (1 + i)) (fun _ _ => rfl) (dskE_row 0 (by decide)) 0 (by decide) rfl rfl (fun hI => cn_X3_at X.2.1 Z (fun i => ad (1 + i)) hI 64 (d 0) v5 er5) rfl dX0_sumOfStamps_33 rfl (Nat.le_of_ble_eq_true rfl) (dskE Z.2.1 ad d) (dskE_id 0 (by decide)) ?_
        refine g_iadd C dX0_sumOfStamps_36 ?_
        obtain ⟨x6, ex6, h⟩ := gl h
        refine g_istore C dX0_sumOfStamps_37 (by decide) [(4, .int x6), (0, .ref (ad 0)), (1, .int v1), (2, .int v2), (3, .int v3), (5, .int v5)] (by rw [ex6]; rfl) ?_
        obtain ⟨x7, ex7, h⟩ := gl h
        refine g_iinc (v := x7) C dX0_sumOfStamps_39 5 rfl (by rw [ex7]; rfl) (by decide) [(5, .int x7), (4, .int x6), (0, .ref (ad 0)), (1, .int v1), (2, .int v2), (3, .int v3)] rfl ?_
        refine g_goto (tgt := 6) C dX0_sumOfStamps_42 (by decide) ?_
        exact g_sub [2, 3, 4, 5, 1, 0] rfl (ih x6 x7 h)
set_option maxHeartbeats 4000000 in
set_option maxRecDepth 100000 in
theorem cn_X0_sumOfStamps (l : Launch) (Z : gZ) (ad : Nat → Nat) (hI : gInj 21 ad) (d : Nat → Nat → Int32) (v1 : Int32) (v2 : Int32) (v3 : Int32) {r : Int32} (h : f_X0_sumOfStamps d v1 v2 v3 = some r) : gI l yX0_sumOfStamps wsX0_sumOfStamps rm_X0_sumOfStamps Z 21 ad [.ref (ad 0), .int v1, .int v2, .int v3] (dskE Z.2.1 ad d) r (dskE Z.2.1 ad d) := by
  refine g_entryI (cc := cX0_sumOfStamps) (maxL := 6) (by decide +kernel) rfl hI (Nat.le_of_ble_eq_true rfl) (fun X C e => ?_)
  unfold f_X0_sumOfStamps at h
  show GG X Z 6 21 ad (dskE Z.2.1 ad d) 0 [(0, .ref (ad 0)), (1, .int v1), (2, .int v2), (3, .int v3)] []
  refine g_iconst (v := 0) C dX0_sumOfStamps_0 (by decide) ?_
  refine g_istore C dX0_sumOfStamps_1 (by decide) [(4, .int 0), (0, .ref (ad 0)), (1, .int v1), (2, .int v2), (3, .int v3)] rfl ?_
  refine g_iconst (v := 0) C dX0_sumOfStamps_3 (by decide) ?_
  refine g_istore C dX0_sumOfStamps_4 (by decide) [(5, .int 0), (4, .int 0), (0, .ref (ad 0)), (1, .int v1), (2, .int v2), (3, .int v3)] rfl ?_
  exact g_sub [2, 3, 4, 5, 1, 0] rfl (cl_X0_sumOfStamps_L6 C e v1 v2 v3 gFu 0 0 h)
abbrev rm_X0_firstOfRun : Room := ({ frames := 2, cells := 0, slots := 0, locals := 44 } : Room)
def f_X0_firstOfRun_L4 (d : Nat → Nat → Int32) (v1 : Int32) : Nat → Int32 → Int32 → Option Int32
  | 0, _, _ => none
  | fu + 1, v2, v3 => if 64 ≤ v3 then some (-5) else gb (f_X0_runFrom d v3) (fun r2 => if r2 ≤ 0 then glet (v3 + 1) (fun x4 => f_X0_firstOfRun_L4 d v1 fu v2 x4) else if v2 = v1 then some v3 else glet (v2 + 1) (fun x6 => glet (v3 + 1) (fun x7 => f_X0_firstOfRun_L4 d v1 fu x6 x7)))
def f_X0_firstOfRun (d : Nat → Nat → Int32) (v1 : Int32) : Option Int32 := f_X0_firstOfRun_L4 d v1 gFu 0 0
set_option maxHeartbeats 4000000 in
set_option maxRecDepth 100000 in
theorem cl_X0_firstOfRun_L4 {X : gX} {Z : gZ} {ad : Nat → Nat} {d : Nat → Nat → Int32} {r : Int32} (C : GC X Z cX0_firstOfRun 4 wsX0_firstOfRun RX0 rm_X0_firstOfRun 21 ad) (e : gEI X Z 21 ad .int r (dskE Z.2.1 ad d)) (v1 : Int32) : ∀ (fu : Nat) (v2 : Int32) (v3 : Int32) (h : f_X0_firstOfRun_L4 d v1 fu v2 v3 = some r), GG X Z 4 21 ad (dskE Z.2.1 ad d) 4 [(0, .ref (ad 0)), (1, .int v1), (2, .int v2), (3, .int v3)] [] := by
  intro fu
  induction fu with
  | zero => intro v2 v3 h; cases h
  | succ fu ih =>
    intro v2 v3 h
    rw [f_X0_firstOfRun_L4] at h
    refine g_iload_n C dX0_firstOfRun_4 3 rfl ?_
    refine g_bipush (v := 64) C dX0_firstOfRun_5 (by decide) ?_
    refine g_icmp_ge (tgt := 34) C dX0_firstOfRun_7 (by decide) (fun c1 => ?_) (fun c1 => ?_)
    · replace h := gi_pos c1 h
      refine g_bipush (v := (-5)) C dX0_firstOfRun_34 (by decide) ?_
      obtain rfl := gs1 h
      exact g_iret C e dX0_firstOfRun_36
    · replace h := gi_neg c1 h
      refine g_aload_n C dX0_firstOfRun_10 0 rfl ?_
      refine g_iload_n C dX0_firstOfRun_11 3 rfl ?_
      obtain ⟨r2, er2, h⟩ := gb1 h
      refine g_callWi (rest := []) C gX0_firstOfRun_X0_runFrom rfl ok_X0_runFrom ⟨by decide, by decide⟩ ⟨rfl, rfl⟩ 0 (by decide) rfl rfl (fun hI => cn_X0_runFrom X.2.1 Z ad hI d v3 er2) rfl dX0_firstOfRun_12 rfl (Nat.le_of_ble_eq_true rfl) ?_
      refine g_if_le (tgt := 28) C dX0_firstOfRun_15 (by decide) (fun c3 => ?_) (fun c3 => ?_)
      · replace h := gi_pos c3 h
        obtain ⟨x4, ex4, h⟩ := gl h
        refine g_iinc (v := x4) C dX0_firstOfRun_28 3 rfl (by rw [ex4]; rfl) (by decide) [(3, .int x4), (0, .ref (ad 0)), (1, .int v1), (2, .int v2)] rfl ?_
        refine g_goto (tgt := 4) C dX0_firstOfRun_31 (by decide) ?_
        exact g_sub [1, 2, 3, 0] rfl (ih v2 x4 h)
      · replace h := gi_neg c3 h
        refine g_iload_n C dX0_firstOfRun_18 2 rfl ?_
        refine g_iload_n C dX0_firstOfRun_19 1 rfl ?_
        refine g_icmp_ne (tgt := 25) C dX0_firstOfRun_20 (by decide) (fun c5 => ?_) (fun c5 => ?_)
        · replace h := gi_neg c5 h
          obtain ⟨x6, ex6, h⟩ := gl h
          refine g_iinc (v := x6) C dX0_firstOfRun_25 2 rfl (by rw [ex6]; rfl) (by decide) [(2, .int x6), (0, .ref (ad 0)), (1, .int v1), (3, .int v3)] rfl ?_
          obtain ⟨x7, ex7, h⟩ := gl h
          refine g_iinc (v := x7) C dX0_firstOfRun_28 3 rfl (by rw [ex7]; rfl) (by decide) [(3, .int x7), (2, .int x6), (0, .ref (ad 0)), (1, .int v1)] rfl ?_
          refine g_goto (tgt := 4) C dX0_firstOfRun_31 (by decide) ?_
          exact g_sub [2, 3, 1, 0] rfl (ih x6 x7 h)
        · replace h := gi_pos c5 h
          refine g_iload_n C dX0_firstOfRun_23 3 rfl ?_
          obtain rfl := gs1 h
          exact g_iret C e dX0_firstOfRun_24
set_option maxHeartbeats 4000000 in
set_option maxRecDepth 100000 in
theorem cn_X0_firstOfRun (l : Launch) (Z : gZ) (ad : Nat → Nat) (hI : gInj 21 ad) (d : Nat → Nat → Int32) (v1 : Int32) {r : Int32} (h : f_X0_firstOfRun d v1 = some r) : gI l yX0_firstOfRun wsX0_firstOfRun rm_X0_firstOfRun Z 21 ad [.ref (ad 0), .int v1] (dskE Z.2.1 ad d) r (dskE Z.2.1 ad d) := by
  refine g_entryI (cc := cX0_firstOfRun) (maxL := 4) (by decide +kernel) rfl hI (Nat.le_of_ble_eq_true rfl) (fun X C e => ?_)
  unfold f_X0_firstOfRun at h
  show GG X Z 4 21 ad (dskE Z.2.1 ad d) 0 [(0, .ref (ad 0)), (1, .int v1)] []
  refine g_iconst (v := 0) C dX0_firstOfRun_0 (by decide) ?_
  refine g_istore_n C dX0_firstOfRun_1 (by decide) [(2, .int 0), (0, .ref (ad 0)), (1, .int v1)] rfl ?_
  refine g_iconst (v := 0) C dX0_firstOfRun_2 (by decide) ?_
  refine g_istore_n C dX0_firstOfRun_3 (by decide) [(3, .int 0), (2, .int 0), (0, .ref (ad 0)), (1, .int v1)] rfl ?_
  exact g_sub [2, 3, 1, 0] rfl (cl_X0_firstOfRun_L4 C e v1 gFu 0 0 h)
abbrev rm_X0_freeRuns : Room := ({ frames := 2, cells := 0, slots := 0, locals := 44 } : Room)
def f_X0_freeRuns_L4 (d : Nat → Nat → Int32) : Nat → Int32 → Int32 → Option Int32
  | 0, _, _ => none
  | fu + 1, v1, v2 => if 64 ≤ v2 then some v1 else gb (f_X0_runFrom d v2) (fun r2 => if r2 ≤ 0 then glet (v2 + 1) (fun x4 => f_X0_freeRuns_L4 d fu v1 x4) else glet (v1 + 1) (fun x5 => glet (v2 + 1) (fun x6 => f_X0_freeRuns_L4 d fu x5 x6)))
def f_X0_freeRuns (d : Nat → Nat → Int32) : Option Int32 := f_X0_freeRuns_L4 d gFu 0 0
set_option maxHeartbeats 4000000 in
set_option maxRecDepth 100000 in
theorem cl_X0_freeRuns_L4 {X : gX} {Z : gZ} {ad : Nat → Nat} {d : Nat → Nat → Int32} {r : Int32} (C : GC X Z cX0_freeRuns 3 wsX0_freeRuns RX0 rm_X0_freeRuns 21 ad) (e : gEI X Z 21 ad .int r (dskE Z.2.1 ad d))  : ∀ (fu : Nat) (v1 : Int32) (v2 : Int32) (h : f_X0_freeRuns_L4 d fu v1 v2 = some r), GG X Z 3 21 ad (dskE Z.2.1 ad d) 4 [(0, .ref (ad 0)), (1, .int v1), (2, .int v2)] [] := by
  intro fu
  induction fu with
  | zero => intro v1 v2 h; cases h
  | succ fu ih =>
    intro v1 v2 h
    rw [f_X0_freeRuns_L4] at h
    refine g_iload_n C dX0_freeRuns_4 2 rfl ?_
    refine g_bipush (v := 64) C dX0_freeRuns_5 (by decide) ?_
    refine g_icmp_ge (tgt := 27) C dX0_freeRuns_7 (by decide) (fun c1 => ?_) (fun c1 => ?_)
    · replace h := gi_pos c1 h
      refine g_iload_n C dX0_freeRuns_27 1 rfl ?_
      obtain rfl := gs1 h
      exact g_iret C e dX0_freeRuns_28
    · replace h := gi_neg c1 h
      refine g_aload_n C dX0_freeRuns_10 0 rfl ?_
      refine g_iload_n C dX0_freeRuns_11 2 rfl ?_
      obtain ⟨r2, er2, h⟩ := gb1 h
      refine g_callWi (rest := []) C gX0_freeRuns_X0_runFrom rfl ok_X0_runFrom ⟨by decide, by decide⟩ ⟨rfl, rfl⟩ 0 (by decide) rfl rfl (fun hI => cn_X0_runFrom X.2.1 Z ad hI d v2 er2) rfl dX0_freeRuns_12 rfl (Nat.le_of_ble_eq_true rfl) ?_
      refine g_if_le (tgt := 21) C dX0_freeRuns_15 (by decide) (fun c3 => ?_) (fun c3 => ?_)
      · replace h := gi_pos c3 h
        obtain ⟨x4, ex4, h⟩ := gl h
        refine g_iinc (v := x4) C dX0_freeRuns_21 2 rfl (by rw [ex4]; rfl) (by decide) [(2, .int x4), (0, .ref (ad 0)), (1, .int v1)] rfl ?_
        refine g_goto (tgt := 4) C dX0_freeRuns_24 (by decide) ?_
        exact g_sub [1, 2, 0] rfl (ih v1 x4 h)
      · replace h := gi_neg c3 h
        obtain ⟨x5, ex5, h⟩ := gl h
        refine g_iinc (v := x5) C dX0_freeRuns_18 1 rfl (by rw [ex5]; rfl) (by decide) [(1, .int x5), (0, .ref (ad 0)), (2, .int v2)] rfl ?_
        obtain ⟨x6, ex6, h⟩ := gl h
        refine g_iinc (v := x6) C dX0_freeRuns_21 2 rfl (by rw [ex6]; rfl) (by decide) [(2, .int x6), (1, .int x5), (0, .ref (ad 0))] rfl ?_
        refine g_goto (tgt := 4) C dX0_freeRuns_24 (by decide) ?_
        exact g_sub [2, 1, 0] rfl (ih x5 x6 h)
set_option maxHeartbeats 4000000 in
set_option maxRecDepth 100000 in
theorem cn_X0_freeRuns (l : Launch) (Z : gZ) (ad : Nat → Nat) (hI : gInj 21 ad) (d : Nat → Nat → Int32) {r : Int32} (h : f_X0_freeRuns d = some r) : gI l yX0_freeRuns wsX0_freeRuns rm_X0_freeRuns Z 21 ad [.ref (ad 0)] (dskE Z.2.1 ad d) r (dskE Z.2.1 ad d) := by
  refine g_entryI (cc := cX0_freeRuns) (maxL := 3) (by decide +kernel) rfl hI (Nat.le_of_ble_eq_true rfl) (fun X C e => ?_)
  unfold f_X0_freeRuns at h
  show GG X Z 3 21 ad (dskE Z.2.1 ad d) 0 [(0, .ref (ad 0))] []
  refine g_iconst (v := 0) C dX0_freeRuns_0 (by decide) ?_
  refine g_istore_n C dX0_freeRuns_1 (by decide) [(1, .int 0), (0, .ref (ad 0))] rfl ?_
  refine g_iconst (v := 0) C dX0_freeRuns_2 (by decide) ?_
  refine g_istore_n C dX0_freeRuns_3 (by decide) [(2, .int 0), (1, .int 0), (0, .ref (ad 0))] rfl ?_
  exact g_sub [2, 1, 0] rfl (cl_X0_freeRuns_L4 C e gFu 0 0 h)
abbrev rm_X0_longestRun : Room := ({ frames := 2, cells := 0, slots := 0, locals := 44 } : Room)
def f_X0_longestRun_L4 (d : Nat → Nat → Int32) : Nat → Int32 → Int32 → Option Int32
  | 0, _, _ => none
  | fu + 1, v1, v2 => if 64 ≤ v2 then some v1 else gb (f_X0_runFrom d v2) (fun r2 => glet (if v1 < r2 then r2 else v1) (fun x3 => glet (v2 + 1) (fun x4 => f_X0_longestRun_L4 d fu x3 x4)))
def f_X0_longestRun (d : Nat → Nat → Int32) : Option Int32 := f_X0_longestRun_L4 d gFu 0 0
set_option maxRecDepth 20000 in
theorem mm_X0_longestRun_137_1 : Cond.methodLink RX0 137 Lib.Math.max.name ∈ wsX0_longestRun := by decide +kernel
set_option maxRecDepth 20000 in
theorem mm_X0_longestRun_137_2 : Cond.static Lib.Math.max.name ∈ wsX0_longestRun := by decide +kernel
set_option maxRecDepth 20000 in
theorem mm_X0_longestRun_137_3 : Cond.initialized "java/lang/Math" ∈ wsX0_longestRun := by decide +kernel
set_option maxRecDepth 20000 in
theorem mm_X0_longestRun_137_4 : Cond.code Lib.Math.max.name Lib.Math.max.code 2 (some .int) ∈ wsX0_longestRun := by decide +kernel
set_option maxHeartbeats 4000000 in
set_option maxRecDepth 100000 in
theorem cl_X0_longestRun_L4 {X : gX} {Z : gZ} {ad : Nat → Nat} {d : Nat → Nat → Int32} {r : Int32} (C : GC X Z cX0_longestRun 3 wsX0_longestRun RX0 rm_X0_longestRun 21 ad) (e : gEI X Z 21 ad .int r (dskE Z.2.1 ad d))  : ∀ (fu : Nat) (v1 : Int32) (v2 : Int32) (h : f_X0_longestRun_L4 d fu v1 v2 = some r), GG X Z 3 21 ad (dskE Z.2.1 ad d) 4 [(0, .ref (ad 0)), (1, .int v1), (2, .int v2)] [] := by
  intro fu
  induction fu with
  | zero => intro v1 v2 h; cases h
  | succ fu ih =>
    intro v1 v2 h
    rw [f_X0_longestRun_L4] at h
    refine g_iload_n C dX0_longestRun_4 2 rfl ?_
    refine g_bipush (v := 64) C dX0_longestRun_5 (by decide) ?_
    refine g_icmp_ge (tgt := 26) C dX0_longestRun_7 (by decide) (fun c1 => ?_) (fun c1 => ?_)
    · replace h := gi_pos c1 h
      refine g_iload_n C dX0_longestRun_26 1 rfl ?_
      obtain rfl := gs1 h
      exact g_iret C e dX0_longestRun_27
    · replace h := gi_neg c1 h
      refine g_iload_n C dX0_longestRun_10 1 rfl ?_
      refine g_aload_n C dX0_longestRun_11 0 rfl ?_
      refine g_iload_n C dX0_longestRun_12 2 rfl ?_
      obtain ⟨r2, er2, h⟩ := gb1 h
      refine g_callWi (rest := [.int v1]) C gX0_longestRun_X0_runFrom rfl ok_X0_runFrom ⟨by decide, by decide⟩ ⟨rfl, rfl⟩ 0 (by decide) rfl rfl (fun hI => cn_X0_runFrom X.2.1 Z ad hI d v2 er2) rfl dX0_longestRun_13 rfl (Nat.le_of_ble_eq_true rfl) ?_
      obtain ⟨x3, ex3, h⟩ := gl h
      refine g_mmax C mm_X0_longestRun_137_1 mm_X0_longestRun_137_2 mm_X0_longestRun_137_3 mm_X0_longestRun_137_4 (by decide) (Nat.le_of_ble_eq_true rfl) dX0_longestRun_16 ?_
      rw [← ex3]
      refine g_istore_n C dX0_longestRun_19 (by decide) [(1, .int x3), (0, .ref (ad 0)), (2, .int v2)] rfl ?_
      obtain ⟨x4, ex4, h⟩ := gl h
      refine g_iinc (v := x4) C dX0_longestRun_20 2 rfl (by rw [ex4]; rfl) (by decide) [(2, .int x4), (1, .int x3), (0, .ref (ad 0))] rfl ?_
      refine g_goto (tgt := 4) C dX0_longestRun_23 (by decide) ?_
      exact g_sub [2, 1, 0] rfl (ih x3 x4 h)
set_option maxHeartbeats 4000000 in
set_option maxRecDepth 100000 in
theorem cn_X0_longestRun (l : Launch) (Z : gZ) (ad : Nat → Nat) (hI : gInj 21 ad) (d : Nat → Nat → Int32) {r : Int32} (h : f_X0_longestRun d = some r) : gI l yX0_longestRun wsX0_longestRun rm_X0_longestRun Z 21 ad [.ref (ad 0)] (dskE Z.2.1 ad d) r (dskE Z.2.1 ad d) := by
  refine g_entryI (cc := cX0_longestRun) (maxL := 3) (by decide +kernel) rfl hI (Nat.le_of_ble_eq_true rfl) (fun X C e => ?_)
  unfold f_X0_longestRun at h
  show GG X Z 3 21 ad (dskE Z.2.1 ad d) 0 [(0, .ref (ad 0))] []
  refine g_iconst (v := 0) C dX0_longestRun_0 (by decide) ?_
  refine g_istore_n C dX0_longestRun_1 (by decide) [(1, .int 0), (0, .ref (ad 0))] rfl ?_
  refine g_iconst (v := 0) C dX0_longestRun_2 (by decide) ?_
  refine g_istore_n C dX0_longestRun_3 (by decide) [(2, .int 0), (1, .int 0), (0, .ref (ad 0))] rfl ?_
  exact g_sub [2, 1, 0] rfl (cl_X0_longestRun_L4 C e gFu 0 0 h)
abbrev rm_X0_totalOf : Room := ({ frames := 1, cells := 0, slots := 0, locals := 21 } : Room)
def f_X0_totalOf (d : Nat → Nat → Int32) (v1 : Int32) : Option Int32 := gb (f_X3_at 4 (d 9) v1) (fun r1 => some r1)
set_option maxRecDepth 20000 in
theorem in_X0_totalOf : ∀ w ∈ wsX00, w ∈ wsX0_totalOf := by decide +kernel
set_option maxRecDepth 20000 in
theorem fl_X0_totalOf_44 : Cond.fieldLink RX0 44 (TX0 9).1 (TX0 9).2.1 (TX0 9).2.2.1 ∈ wsX0_totalOf := by decide +kernel
set_option maxHeartbeats 4000000 in
set_option maxRecDepth 100000 in
theorem cn_X0_totalOf (l : Launch) (Z : gZ) (ad : Nat → Nat) (hI : gInj 21 ad) (d : Nat → Nat → Int32) (v1 : Int32) {r : Int32} (h : f_X0_totalOf d v1 = some r) : gI l yX0_totalOf wsX0_totalOf rm_X0_totalOf Z 21 ad [.ref (ad 0), .int v1] (dskE Z.2.1 ad d) r (dskE Z.2.1 ad d) := by
  refine g_entryI (cc := cX0_totalOf) (maxL := 2) (by decide +kernel) rfl hI (Nat.le_of_ble_eq_true rfl) (fun X C e => ?_)
  unfold f_X0_totalOf at h
  show GG X Z 2 21 ad (dskE Z.2.1 ad d) 0 [(0, .ref (ad 0)), (1, .int v1)] []
  refine g_aload_n C dX0_totalOf_0 0 rfl ?_
  refine g_getf (v := .ref (ad 19)) C 0 (by decide) rfl rfl in_X0_totalOf 9 (by decide) fl_X0_totalOf_44 rfl dX0_totalOf_1 ?_
  refine g_iload_n C dX0_totalOf_4 1 rfl ?_
  obtain ⟨r1, er1, h⟩ := gb1 h
  refine g_callVi (rest := []) C gX0_totalOf_X3_at rfl ok_X3_at ⟨by decide, by decide⟩ ⟨rfl, rfl⟩ 19 2 (by decide) (adc := fun i => ad (19 + i)) (fun _ _ => rfl) (dskE_row 9 (by decide)) 0 (by decide) rfl rfl (fun hI => cn_X3_at X.2.1 Z (fun i => ad (19 + i)) hI 4 (d 9) v1 er1) rfl dX0_totalOf_5 rfl (Nat.le_of_ble_eq_true rfl) (dskE Z.2.1 ad d) (dskE_id 9 (by decide)) ?_
  obtain rfl := gs1 h
  exact g_iret C e dX0_totalOf_8
abbrev rm_X0_lentToFilesThatAre : Room := ({ frames := 2, cells := 0, slots := 0, locals := 42 } : Room)
def f_X0_lentToFilesThatAre_L4 (d : Nat → Nat → Int32) (v1 : Int32) : Nat → Int32 → Int32 → Option Int32
  | 0, _, _ => none
  | fu + 1, v2, v3 => if 8 ≤ v3 then some v2 else gb (f_X3_holds 8 (d 3) v3 v1) (fun r2 => if r2 = 0 then glet (v3 + 1) (fun x4 => f_X0_lentToFilesThatAre_L4 d v1 fu v2 x4) else gb (f_X0_lentOf d v3) (fun r5 => glet (v2 + r5) (fun x6 => glet (v3 + 1) (fun x7 => f_X0_lentToFilesThatAre_L4 d v1 fu x6 x7))))
def f_X0_lentToFilesThatAre (d : Nat → Nat → Int32) (v1 : Int32) : Option Int32 := f_X0_lentToFilesThatAre_L4 d v1 gFu 0 0
set_option maxRecDepth 20000 in
theorem in_X0_lentToFilesThatAre : ∀ w ∈ wsX00, w ∈ wsX0_lentToFilesThatAre := by decide +kernel
set_option maxRecDepth 20000 in
theorem fl_X0_lentToFilesThatAre_26 : Cond.fieldLink RX0 26 (TX0 3).1 (TX0 3).2.1 (TX0 3).2.2.1 ∈ wsX0_lentToFilesThatAre := by decide +kernel
set_option maxHeartbeats 4000000 in
set_option maxRecDepth 100000 in
theorem cl_X0_lentToFilesThatAre_L4 {X : gX} {Z : gZ} {ad : Nat → Nat} {d : Nat → Nat → Int32} {r : Int32} (C : GC X Z cX0_lentToFilesThatAre 4 wsX0_lentToFilesThatAre RX0 rm_X0_lentToFilesThatAre 21 ad) (e : gEI X Z 21 ad .int r (dskE Z.2.1 ad d)) (v1 : Int32) : ∀ (fu : Nat) (v2 : Int32) (v3 : Int32) (h : f_X0_lentToFilesThatAre_L4 d v1 fu v2 v3 = some r), GG X Z 4 21 ad (dskE Z.2.1 ad d) 4 [(0, .ref (ad 0)), (1, .int v1), (2, .int v2), (3, .int v3)] [] := by
  intro fu
  induction fu with
  | zero => intro v2 v3 h; cases h
  | succ fu ih =>
    intro v2 v3 h
    rw [f_X0_lentToFilesThatAre_L4] at h
    refine g_iload_n C dX0_lentToFilesThatAre_4 3 rfl ?_
    refine g_bipush (v := 8) C dX0_lentToFilesThatAre_5 (by decide) ?_
    refine g_icmp_ge (tgt := 36) C dX0_lentToFilesThatAre_7 (by decide) (fun c1 => ?_) (fun c1 => ?_)
    · replace h := gi_pos c1 h
      refine g_iload_n C dX0_lentToFilesThatAre_36 2 rfl ?_
      obtain rfl := gs1 h
      exact g_iret C e dX0_lentToFilesThatAre_37
    · replace h := gi_neg c1 h
      refine g_aload_n C dX0_lentToFilesThatAre_10 0 rfl ?_
      refine g_getf (v := .ref (ad 7)) C 0 (by decide) rfl rfl in_X0_lentToFilesThatAre 3 (by decide) fl_X0_lentToFilesThatAre_26 rfl dX0_lentToFilesThatAre_11 ?_
      refine g_iload_n C dX0_lentToFilesThatAre_14 3 rfl ?_
      refine g_iload_n C dX0_lentToFilesThatAre_15 1 rfl ?_
      obtain ⟨r2, er2, h⟩ := gb1 h
      refine g_callVi (rest := []) C gX0_lentToFilesThatAre_X3_holds rfl ok_X3_holds ⟨by decide, by decide⟩ ⟨rfl, rfl⟩ 7 2 (by decide) (adc := fun i => ad (7 + i)) (fun _ _ => rfl) (dskE_row 3 (by decide)) 0 (by decide) rfl rfl (fun hI => cn_X3_holds X.2.1 Z (fun i => ad (7 + i)) hI 8 (d 3) v3 v1 er2) rfl dX0_lentToFilesThatAre_16 rfl (Nat.le_of_ble_eq_true rfl) (dskE Z.2.1 ad d) (dskE_id 3 (by decide)) ?_
      refine g_if_eq (tgt := 30) C dX0_lentToFilesThatAre_19 (by decide) (fun c3 => ?_) (fun c3 => ?_)
      · replace h := gi_pos c3 h
        obtain ⟨x4, ex4, h⟩ := gl h
        refine g_iinc (v := x4) C dX0_lentToFilesThatAre_30 3 rfl (by rw [ex4]; rfl) (by decide) [(3, .int x4), (0, .ref (ad 0)), (1, .int v1), (2, .int v2)] rfl ?_
        refine g_goto (tgt := 4) C dX0_lentToFilesThatAre_33 (by decide) ?_
        exact g_sub [1, 2, 3, 0] rfl (ih v2 x4 h)
      · replace h := gi_neg c3 h
        refine g_iload_n C dX0_lentToFilesThatAre_22 2 rfl ?_
        refine g_aload_n C dX0_lentToFilesThatAre_23 0 rfl ?_
        refine g_iload_n C dX0_lentToFilesThatAre_24 3 rfl ?_
        obtain ⟨r5, er5, h⟩ := gb1 h
        refine g_callWi (rest := [.int v2]) C gX0_lentToFilesThatAre_X0_lentOf rfl ok_X0_lentOf ⟨by decide, by decide⟩ ⟨rfl, rfl⟩ 0 (by decide) rfl rfl (fun hI => cn_X0_lentOf X.2.1 Z ad hI d v3 er5) rfl dX0_lentToFilesThatAre_25 rfl (Nat.le_of_ble_eq_true rfl) ?_
        refine g_iadd C dX0_lentToFilesThatAre_28 ?_
        obtain ⟨x6, ex6, h⟩ := gl h
        refine g_istore_n C dX0_lentToFilesThatAre_29 (by decide) [(2, .int x6), (0, .ref (ad 0)), (1, .int v1), (3, .int v3)] (by rw [ex6]; rfl) ?_
        obtain ⟨x7, ex7, h⟩ := gl h
        refine g_iinc (v := x7) C dX0_lentToFilesThatAre_30 3 rfl (by rw [ex7]; rfl) (by decide) [(3, .int x7), (2, .int x6), (0, .ref (ad 0)), (1, .int v1)] rfl ?_
        refine g_goto (tgt := 4) C dX0_lentToFilesThatAre_33 (by decide) ?_
        exact g_sub [2, 3, 1, 0] rfl (ih x6 x7 h)
set_option maxHeartbeats 4000000 in
set_option maxRecDepth 100000 in
theorem cn_X0_lentToFilesThatAre (l : Launch) (Z : gZ) (ad : Nat → Nat) (hI : gInj 21 ad) (d : Nat → Nat → Int32) (v1 : Int32) {r : Int32} (h : f_X0_lentToFilesThatAre d v1 = some r) : gI l yX0_lentToFilesThatAre wsX0_lentToFilesThatAre rm_X0_lentToFilesThatAre Z 21 ad [.ref (ad 0), .int v1] (dskE Z.2.1 ad d) r (dskE Z.2.1 ad d) := by
  refine g_entryI (cc := cX0_lentToFilesThatAre) (maxL := 4) (by decide +kernel) rfl hI (Nat.le_of_ble_eq_true rfl) (fun X C e => ?_)
  unfold f_X0_lentToFilesThatAre at h
  show GG X Z 4 21 ad (dskE Z.2.1 ad d) 0 [(0, .ref (ad 0)), (1, .int v1)] []
  refine g_iconst (v := 0) C dX0_lentToFilesThatAre_0 (by decide) ?_
  refine g_istore_n C dX0_lentToFilesThatAre_1 (by decide) [(2, .int 0), (0, .ref (ad 0)), (1, .int v1)] rfl ?_
  refine g_iconst (v := 0) C dX0_lentToFilesThatAre_2 (by decide) ?_
  refine g_istore_n C dX0_lentToFilesThatAre_3 (by decide) [(3, .int 0), (2, .int 0), (0, .ref (ad 0)), (1, .int v1)] rfl ?_
  exact g_sub [2, 3, 1, 0] rfl (cl_X0_lentToFilesThatAre_L4 C e v1 gFu 0 0 h)
abbrev rm_X0_filesWithBlocks : Room := ({ frames := 1, cells := 0, slots := 0, locals := 21 } : Room)
def f_X0_filesWithBlocks_L4 (d : Nat → Nat → Int32) : Nat → Int32 → Int32 → Option Int32
  | 0, _, _ => none
  | fu + 1, v1, v2 => if 8 ≤ v2 then some v1 else gb (f_X3_at 8 (d 4) v2) (fun r2 => if r2 ≤ 0 then glet (v2 + 1) (fun x4 => f_X0_filesWithBlocks_L4 d fu v1 x4) else glet (v1 + 1) (fun x5 => glet (v2 + 1) (fun x6 => f_X0_filesWithBlocks_L4 d fu x5 x6)))
def f_X0_filesWithBlocks (d : Nat → Nat → Int32) : Option Int32 := f_X0_filesWithBlocks_L4 d gFu 0 0
set_option maxRecDepth 20000 in
theorem in_X0_filesWithBlocks : ∀ w ∈ wsX00, w ∈ wsX0_filesWithBlocks := by decide +kernel
set_option maxRecDepth 20000 in
theorem fl_X0_filesWithBlocks_29 : Cond.fieldLink RX0 29 (TX0 4).1 (TX0 4).2.1 (TX0 4).2.2.1 ∈ wsX0_filesWithBlocks := by decide +kernel
set_option maxHeartbeats 4000000 in
set_option maxRecDepth 100000 in
theorem cl_X0_filesWithBlocks_L4 {X : gX} {Z : gZ} {ad : Nat → Nat} {d : Nat → Nat → Int32} {r : Int32} (C : GC X Z cX0_filesWithBlocks 3 wsX0_filesWithBlocks RX0 rm_X0_filesWithBlocks 21 ad) (e : gEI X Z 21 ad .int r (dskE Z.2.1 ad d))  : ∀ (fu : Nat) (v1 : Int32) (v2 : Int32) (h : f_X0_filesWithBlocks_L4 d fu v1 v2 = some r), GG X Z 3 21 ad (dskE Z.2.1 ad d) 4 [(0, .ref (ad 0)), (1, .int v1), (2, .int v2)] [] := by
  intro fu
  induction fu with
  | zero => intro v1 v2 h; cases h
  | succ fu ih =>
    intro v1 v2 h
    rw [f_X0_filesWithBlocks_L4] at h
    refine g_iload_n C dX0_filesWithBlocks_4 2 rfl ?_
    refine g_bipush (v := 8) C dX0_filesWithBlocks_5 (by decide) ?_
    refine g_icmp_ge (tgt := 30) C dX0_filesWithBlocks_7 (by decide) (fun c1 => ?_) (fun c1 => ?_)
    · replace h := gi_pos c1 h
      refine g_iload_n C dX0_filesWithBlocks_30 1 rfl ?_
      obtain rfl := gs1 h
      exact g_iret C e dX0_filesWithBlocks_31
    · replace h := gi_neg c1 h
      refine g_aload_n C dX0_filesWithBlocks_10 0 rfl ?_
      refine g_getf (v := .ref (ad 9)) C 0 (by decide) rfl rfl in_X0_filesWithBlocks 4 (by decide) fl_X0_filesWithBlocks_29 rfl dX0_filesWithBlocks_11 ?_
      refine g_iload_n C dX0_filesWithBlocks_14 2 rfl ?_
      obtain ⟨r2, er2, h⟩ := gb1 h
      refine g_callVi (rest := []) C gX0_filesWithBlocks_X3_at rfl ok_X3_at ⟨by decide, by decide⟩ ⟨rfl, rfl⟩ 9 2 (by decide) (adc := fun i => ad (9 + i)) (fun _ _ => rfl) (dskE_row 4 (by decide)) 0 (by decide) rfl rfl (fun hI => cn_X3_at X.2.1 Z (fun i => ad (9 + i)) hI 8 (d 4) v2 er2) rfl dX0_filesWithBlocks_15 rfl (Nat.le_of_ble_eq_true rfl) (dskE Z.2.1 ad d) (dskE_id 4 (by decide)) ?_
      refine g_if_le (tgt := 24) C dX0_filesWithBlocks_18 (by decide) (fun c3 => ?_) (fun c3 => ?_)
      · replace h := gi_pos c3 h
        obtain ⟨x4, ex4, h⟩ := gl h
        refine g_iinc (v := x4) C dX0_filesWithBlocks_24 2 rfl (by rw [ex4]; rfl) (by decide) [(2, .int x4), (0, .ref (ad 0)), (1, .int v1)] rfl ?_
        refine g_goto (tgt := 4) C dX0_filesWithBlocks_27 (by decide) ?_
        exact g_sub [1, 2, 0] rfl (ih v1 x4 h)
      · replace h := gi_neg c3 h
        obtain ⟨x5, ex5, h⟩ := gl h
        refine g_iinc (v := x5) C dX0_filesWithBlocks_21 1 rfl (by rw [ex5]; rfl) (by decide) [(1, .int x5), (0, .ref (ad 0)), (2, .int v2)] rfl ?_
        obtain ⟨x6, ex6, h⟩ := gl h
        refine g_iinc (v := x6) C dX0_filesWithBlocks_24 2 rfl (by rw [ex6]; rfl) (by decide) [(2, .int x6), (1, .int x5), (0, .ref (ad 0))] rfl ?_
        refine g_goto (tgt := 4) C dX0_filesWithBlocks_27 (by decide) ?_
        exact g_sub [2, 1, 0] rfl (ih x5 x6 h)
set_option maxHeartbeats 4000000 in
set_option maxRecDepth 100000 in
theorem cn_X0_filesWithBlocks (l : Launch) (Z : gZ) (ad : Nat → Nat) (hI : gInj 21 ad) (d : Nat → Nat → Int32) {r : Int32} (h : f_X0_filesWithBlocks d = some r) : gI l yX0_filesWithBlocks wsX0_filesWithBlocks rm_X0_filesWithBlocks Z 21 ad [.ref (ad 0)] (dskE Z.2.1 ad d) r (dskE Z.2.1 ad d) := by
  refine g_entryI (cc := cX0_filesWithBlocks) (maxL := 3) (by decide +kernel) rfl hI (Nat.le_of_ble_eq_true rfl) (fun X C e => ?_)
  unfold f_X0_filesWithBlocks at h
  show GG X Z 3 21 ad (dskE Z.2.1 ad d) 0 [(0, .ref (ad 0))] []
  refine g_iconst (v := 0) C dX0_filesWithBlocks_0 (by decide) ?_
  refine g_istore_n C dX0_filesWithBlocks_1 (by decide) [(1, .int 0), (0, .ref (ad 0))] rfl ?_
  refine g_iconst (v := 0) C dX0_filesWithBlocks_2 (by decide) ?_
  refine g_istore_n C dX0_filesWithBlocks_3 (by decide) [(2, .int 0), (1, .int 0), (0, .ref (ad 0))] rfl ?_
  exact g_sub [2, 1, 0] rfl (cl_X0_filesWithBlocks_L4 C e gFu 0 0 h)
abbrev rm_X0_allExtents : Room := ({ frames := 3, cells := 0, slots := 0, locals := 66 } : Room)
def f_X0_allExtents_L4 (d : Nat → Nat → Int32) : Nat → Int32 → Int32 → Option Int32
  | 0, _, _ => none
  | fu + 1, v1, v2 => if 8 ≤ v2 then some v1 else gb (f_X0_extentsOf d v2) (fun r2 => glet (v1 + r2) (fun x3 => glet (v2 + 1) (fun x4 => f_X0_allExtents_L4 d fu x3 x4)))
def f_X0_allExtents (d : Nat → Nat → Int32) : Option Int32 := f_X0_allExtents_L4 d gFu 0 0
set_option maxHeartbeats 4000000 in
set_option maxRecDepth 100000 in
theorem cl_X0_allExtents_L4 {X : gX} {Z : gZ} {ad : Nat → Nat} {d : Nat → Nat → Int32} {r : Int32} (C : GC X Z cX0_allExtents 3 wsX0_allExtents RX0 rm_X0_allExtents 21 ad) (e : gEI X Z 21 ad .int r (dskE Z.2.1 ad d))  : ∀ (fu : Nat) (v1 : Int32) (v2 : Int32) (h : f_X0_allExtents_L4 d fu v1 v2 = some r), GG X Z 3 21 ad (dskE Z.2.1 ad d) 4 [(0, .ref (ad 0)), (1, .int v1), (2, .int v2)] [] := by
  intro fu
  induction fu with
  | zero => intro v1 v2 h; cases h
  | succ fu ih =>
    intro v1 v2 h
    rw [f_X0_allExtents_L4] at h
    refine g_iload_n C dX0_allExtents_4 2 rfl ?_
    refine g_bipush (v := 8) C dX0_allExtents_5 (by decide) ?_
    refine g_icmp_ge (tgt := 24) C dX0_allExtents_7 (by decide) (fun c1 => ?_) (fun c1 => ?_)
    · replace h := gi_pos c1 h
      refine g_iload_n C dX0_allExtents_24 1 rfl ?_
      obtain rfl := gs1 h
      exact g_iret C e dX0_allExtents_25
    · replace h := gi_neg c1 h
      refine g_iload_n C dX0_allExtents_10 1 rfl ?_
      refine g_aload_n C dX0_allExtents_11 0 rfl ?_
      refine g_iload_n C dX0_allExtents_12 2 rfl ?_
      obtain ⟨r2, er2, h⟩ := gb1 h
      refine g_callWi (rest := [.int v1]) C gX0_allExtents_X0_extentsOf rfl ok_X0_extentsOf ⟨by decide, by decide⟩ ⟨rfl, rfl⟩ 0 (by decide) rfl rfl (fun hI => cn_X0_extentsOf X.2.1 Z ad hI d v2 er2) rfl dX0_allExtents_13 rfl (Nat.le_of_ble_eq_true rfl) ?_
      refine g_iadd C dX0_allExtents_16 ?_
      obtain ⟨x3, ex3, h⟩ := gl h
      refine g_istore_n C dX0_allExtents_17 (by decide) [(1, .int x3), (0, .ref (ad 0)), (2, .int v2)] (by rw [ex3]; rfl) ?_
      obtain ⟨x4, ex4, h⟩ := gl h
      refine g_iinc (v := x4) C dX0_allExtents_18 2 rfl (by rw [ex4]; rfl) (by decide) [(2, .int x4), (1, .int x3), (0, .ref (ad 0))] rfl ?_
      refine g_goto (tgt := 4) C dX0_allExtents_21 (by decide) ?_
      exact g_sub [2, 1, 0] rfl (ih x3 x4 h)
set_option maxHeartbeats 4000000 in
set_option maxRecDepth 100000 in
theorem cn_X0_allExtents (l : Launch) (Z : gZ) (ad : Nat → Nat) (hI : gInj 21 ad) (d : Nat → Nat → Int32) {r : Int32} (h : f_X0_allExtents d = some r) : gI l yX0_allExtents wsX0_allExtents rm_X0_allExtents Z 21 ad [.ref (ad 0)] (dskE Z.2.1 ad d) r (dskE Z.2.1 ad d) := by
  refine g_entryI (cc := cX0_allExtents) (maxL := 3) (by decide +kernel) rfl hI (Nat.le_of_ble_eq_true rfl) (fun X C e => ?_)
  unfold f_X0_allExtents at h
  show GG X Z 3 21 ad (dskE Z.2.1 ad d) 0 [(0, .ref (ad 0))] []
  refine g_iconst (v := 0) C dX0_allExtents_0 (by decide) ?_
  refine g_istore_n C dX0_allExtents_1 (by decide) [(1, .int 0), (0, .ref (ad 0))] rfl ?_
  refine g_iconst (v := 0) C dX0_allExtents_2 (by decide) ?_
  refine g_istore_n C dX0_allExtents_3 (by decide) [(2, .int 0), (1, .int 0), (0, .ref (ad 0))] rfl ?_
  exact g_sub [2, 1, 0] rfl (cl_X0_allExtents_L4 C e gFu 0 0 h)
