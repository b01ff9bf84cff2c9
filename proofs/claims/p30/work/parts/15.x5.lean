set_option maxRecDepth 20000 in
theorem ggX5_init_X0_init : GoodIn wsX5_init wsX0_init := goodIn_r _ [25, 26, 2, 3, 27, 28, 29, 30, 31, 32, 33, 34, 35, 36, 37, 38, 39, 40, 41, 42, 43, 44, 45, 46, 47, 48, 49, 50, 51, 52, 53, 105, 78, 79, 80, 81, 82, 83, 84, 85, 86, 87] (by decide +kernel) (by decide +kernel)
set_option maxRecDepth 20000 in
theorem gX5_init_X0_init : GoodIn wsX5_init (wsX0_init) := ggX5_init_X0_init
set_option maxRecDepth 20000 in
theorem ggX5_init_X1_init : GoodIn wsX5_init wsX1_init := goodIn_r _ [56, 57, 2, 3, 58, 59, 60, 61, 5, 6, 62, 24, 25, 26, 27, 28, 29, 30, 31, 32, 33, 34, 35, 36, 37, 38, 39, 40, 41, 42, 43, 44, 45, 46, 47, 48, 49, 50, 51, 52, 53, 95, 96, 97, 78, 79, 80, 81, 82, 83, 84, 85, 86, 87, 105] (by decide +kernel) (by decide +kernel)
set_option maxRecDepth 20000 in
theorem gX5_init_X1_init : GoodIn wsX5_init (wsX1_init) := ggX5_init_X1_init
set_option maxRecDepth 20000 in
theorem ggX5_init_X4_init : GoodIn wsX5_init wsX4_init := goodIn_r _ [64, 65, 2, 3, 66, 28, 29, 67, 68, 69, 41, 42, 43, 44, 45, 46, 47, 48, 49, 105, 98, 99] (by decide +kernel) (by decide +kernel)
set_option maxRecDepth 20000 in
theorem gX5_init_X4_init_n35 : GoodIn wsX5_init (wsX4_init) := ggX5_init_X4_init
set_option maxRecDepth 20000 in
theorem ggX5_init_X2_init : GoodIn wsX5_init wsX2_init := goodIn_r _ [71, 72, 2, 3, 73, 74, 75, 76, 77, 100, 101, 102, 103, 104] (by decide +kernel) (by decide +kernel)
set_option maxRecDepth 20000 in
theorem gX5_init_X2_init_n42 : GoodIn wsX5_init (wsX2_init) := ggX5_init_X2_init
theorem dX5_init_0 : decode cX5_init 0 = .ok (.aload_n 0, 1) := by decide +kernel
theorem dX5_init_1 : decode cX5_init 1 = .ok (.invokespecial 1, 3) := by decide +kernel
theorem dX5_init_4 : decode cX5_init 4 = .ok (.aload_n 0, 1) := by decide +kernel
theorem dX5_init_5 : decode cX5_init 5 = .ok (.new 7, 3) := by decide +kernel
theorem dX5_init_8 : decode cX5_init 8 = .ok (.dup, 1) := by decide +kernel
theorem dX5_init_9 : decode cX5_init 9 = .ok (.invokespecial 9, 3) := by decide +kernel
theorem dX5_init_12 : decode cX5_init 12 = .ok (.putfield 10, 3) := by decide +kernel
theorem dX5_init_15 : decode cX5_init 15 = .ok (.aload_n 0, 1) := by decide +kernel
theorem dX5_init_16 : decode cX5_init 16 = .ok (.new 7, 3) := by decide +kernel
theorem dX5_init_19 : decode cX5_init 19 = .ok (.dup, 1) := by decide +kernel
theorem dX5_init_20 : decode cX5_init 20 = .ok (.invokespecial 9, 3) := by decide +kernel
theorem dX5_init_23 : decode cX5_init 23 = .ok (.putfield 16, 3) := by decide +kernel
theorem dX5_init_26 : decode cX5_init 26 = .ok (.aload_n 0, 1) := by decide +kernel
theorem dX5_init_27 : decode cX5_init 27 = .ok (.new 7, 3) := by decide +kernel
theorem dX5_init_30 : decode cX5_init 30 = .ok (.dup, 1) := by decide +kernel
theorem dX5_init_31 : decode cX5_init 31 = .ok (.invokespecial 9, 3) := by decide +kernel
theorem dX5_init_34 : decode cX5_init 34 = .ok (.putfield 19, 3) := by decide +kernel
theorem dX5_init_37 : decode cX5_init 37 = .ok (.aload_n 0, 1) := by decide +kernel
theorem dX5_init_38 : decode cX5_init 38 = .ok (.iconst 0, 1) := by decide +kernel
theorem dX5_init_39 : decode cX5_init 39 = .ok (.putfield 22, 3) := by decide +kernel
theorem dX5_init_42 : decode cX5_init 42 = .ok (.aload_n 0, 1) := by decide +kernel
theorem dX5_init_43 : decode cX5_init 43 = .ok (.new 26, 3) := by decide +kernel
theorem dX5_init_46 : decode cX5_init 46 = .ok (.dup, 1) := by decide +kernel
theorem dX5_init_47 : decode cX5_init 47 = .ok (.invokespecial 28, 3) := by decide +kernel
theorem dX5_init_50 : decode cX5_init 50 = .ok (.putfield 29, 3) := by decide +kernel
theorem dX5_init_53 : decode cX5_init 53 = .ok (.aload_n 0, 1) := by decide +kernel
theorem dX5_init_54 : decode cX5_init 54 = .ok (.new 33, 3) := by decide +kernel
theorem dX5_init_57 : decode cX5_init 57 = .ok (.dup, 1) := by decide +kernel
theorem dX5_init_58 : decode cX5_init 58 = .ok (.invokespecial 35, 3) := by decide +kernel
theorem dX5_init_61 : decode cX5_init 61 = .ok (.putfield 36, 3) := by decide +kernel
theorem dX5_init_64 : decode cX5_init 64 = .ok (.aload_n 0, 1) := by decide +kernel
theorem dX5_init_65 : decode cX5_init 65 = .ok (.new 40, 3) := by decide +kernel
theorem dX5_init_68 : decode cX5_init 68 = .ok (.dup, 1) := by decide +kernel
theorem dX5_init_69 : decode cX5_init 69 = .ok (.invokespecial 42, 3) := by decide +kernel
theorem dX5_init_72 : decode cX5_init 72 = .ok (.putfield 43, 3) := by decide +kernel
theorem dX5_init_75 : decode cX5_init 75 = .ok (.return_, 1) := by decide +kernel
set_option maxRecDepth 20000 in
theorem ggX5_create_X0_copyFrom : GoodIn wsX5_create wsX0_copyFrom := goodIn_r _ [7, 8, 9, 10, 11, 12, 13, 14, 15, 16, 17, 18, 19, 20, 21, 22, 23, 24, 25, 26, 27, 66, 67, 68, 69, 70, 71, 72, 73, 74, 75, 76] (by decide +kernel) (by decide +kernel)
set_option maxRecDepth 20000 in
theorem gX5_create_X0_copyFrom : GoodIn wsX5_create (wsV RX5 47 RX0 yX0_copyFrom wsX0_copyFrom) := goodIn_app (goodIn_of _ (by decide +kernel)) ggX5_create_X0_copyFrom
set_option maxRecDepth 20000 in
theorem ggX5_create_X0_createFile : GoodIn wsX5_create wsX0_createFile := goodIn_r _ [31, 11, 12, 13, 14, 15, 32, 33, 34, 21, 35, 23, 36, 37, 38, 39, 66, 67, 68, 69, 70, 71, 72, 73, 74, 75, 76] (by decide +kernel) (by decide +kernel)
set_option maxRecDepth 20000 in
theorem gX5_create_X0_createFile : GoodIn wsX5_create (wsV RX5 51 RX0 yX0_createFile wsX0_createFile) := goodIn_app (goodIn_of _ (by decide +kernel)) ggX5_create_X0_createFile
set_option maxRecDepth 20000 in
theorem ggX5_create_X5_recorded : GoodIn wsX5_create wsX5_recorded := goodIn_r _ [44, 45, 1, 46, 47, 48, 49, 50, 51, 52, 53, 54, 55, 56, 57, 58, 4, 5, 6, 7, 8, 9, 10, 11, 12, 13, 14, 15, 16, 17, 18, 19, 20, 21, 22, 23, 24, 25, 26, 27, 59, 60, 61, 62, 63, 64, 65, 77, 78, 79, 66, 67, 68, 69, 70, 71, 72, 73, 74, 75, 76] (by decide +kernel) (by decide +kernel)
set_option maxRecDepth 20000 in
theorem gX5_create_X5_recorded : GoodIn wsX5_create (wsV RX5 55 RX5 yX5_recorded wsX5_recorded) := goodIn_app (goodIn_of _ (by decide +kernel)) ggX5_create_X5_recorded
theorem dX5_create_0 : decode cX5_create 0 = .ok (.aload_n 0, 1) := by decide +kernel
theorem dX5_create_1 : decode cX5_create 1 = .ok (.getfield 16, 3) := by decide +kernel
theorem dX5_create_4 : decode cX5_create 4 = .ok (.aload_n 0, 1) := by decide +kernel
theorem dX5_create_5 : decode cX5_create 5 = .ok (.getfield 10, 3) := by decide +kernel
theorem dX5_create_8 : decode cX5_create 8 = .ok (.invokevirtual 47, 3) := by decide +kernel
theorem dX5_create_11 : decode cX5_create 11 = .ok (.aload_n 0, 1) := by decide +kernel
theorem dX5_create_12 : decode cX5_create 12 = .ok (.aload_n 0, 1) := by decide +kernel
theorem dX5_create_13 : decode cX5_create 13 = .ok (.getfield 10, 3) := by decide +kernel
theorem dX5_create_16 : decode cX5_create 16 = .ok (.invokevirtual 51, 3) := by decide +kernel
theorem dX5_create_19 : decode cX5_create 19 = .ok (.invokevirtual 55, 3) := by decide +kernel
theorem dX5_create_22 : decode cX5_create 22 = .ok (.ireturn, 1) := by decide +kernel
set_option maxRecDepth 20000 in
theorem ggX5_open_X0_copyFrom : GoodIn wsX5_open wsX0_copyFrom := goodIn_r _ [7, 8, 9, 10, 11, 12, 13, 14, 15, 16, 17, 18, 19, 20, 21, 22, 23, 24, 25, 26, 27, 78, 79, 80, 81, 82, 83, 84, 85, 86, 87, 88] (by decide +kernel) (by decide +kernel)
set_option maxRecDepth 20000 in
theorem gX5_open_X0_copyFrom : GoodIn wsX5_open (wsV RX5 47 RX0 yX0_copyFrom wsX0_copyFrom) := goodIn_app (goodIn_of _ (by decide +kernel)) ggX5_open_X0_copyFrom
set_option maxRecDepth 20000 in
theorem ggX5_open_X0_openFile : GoodIn wsX5_open wsX0_openFile := goodIn_r _ [31, 11, 32, 33, 34, 6, 35, 36, 37, 38, 21, 39, 23, 40, 41, 42, 43, 44, 45, 46, 47, 48, 49, 50, 51, 78, 79, 80, 81, 82, 83, 84, 85, 86, 87, 88] (by decide +kernel) (by decide +kernel)
set_option maxRecDepth 20000 in
theorem gX5_open_X0_openFile : GoodIn wsX5_open (wsV RX5 59 RX0 yX0_openFile wsX0_openFile) := goodIn_app (goodIn_of _ (by decide +kernel)) ggX5_open_X0_openFile
set_option maxRecDepth 20000 in
theorem ggX5_open_X5_recorded : GoodIn wsX5_open wsX5_recorded := goodIn_r _ [56, 57, 1, 58, 59, 60, 61, 62, 63, 64, 65, 66, 67, 68, 69, 70, 4, 5, 6, 7, 8, 9, 10, 11, 12, 13, 14, 15, 16, 17, 18, 19, 20, 21, 22, 23, 24, 25, 26, 27, 71, 72, 73, 74, 75, 76, 77, 89, 90, 91, 78, 79, 80, 81, 82, 83, 84, 85, 86, 87, 88] (by decide +kernel) (by decide +kernel)
set_option maxRecDepth 20000 in
theorem gX5_open_X5_recorded : GoodIn wsX5_open (wsV RX5 55 RX5 yX5_recorded wsX5_recorded) := goodIn_app (goodIn_of _ (by decide +kernel)) ggX5_open_X5_recorded
theorem dX5_open_0 : decode cX5_open 0 = .ok (.aload_n 0, 1) := by decide +kernel
theorem dX5_open_1 : decode cX5_open 1 = .ok (.getfield 16, 3) := by decide +kernel
theorem dX5_open_4 : decode cX5_open 4 = .ok (.aload_n 0, 1) := by decide +kernel
theorem dX5_open_5 : decode cX5_open 5 = .ok (.getfield 10, 3) := by decide +kernel
theorem dX5_open_8 : decode cX5_open 8 = .ok (.invokevirtual 47, 3) := by decide +kernel
theorem dX5_open_11 : decode cX5_open 11 = .ok (.aload_n 0, 1) := by decide +kernel
theorem dX5_open_12 : decode cX5_open 12 = .ok (.aload_n 0, 1) := by decide +kernel
theorem dX5_open_13 : decode cX5_open 13 = .ok (.getfield 10, 3) := by decide +kernel
theorem dX5_open_16 : decode cX5_open 16 = .ok (.iload_n 1, 1) := by decide +kernel
theorem dX5_open_17 : decode cX5_open 17 = .ok (.invokevirtual 59, 3) := by decide +kernel
theorem dX5_open_20 : decode cX5_open 20 = .ok (.invokevirtual 55, 3) := by decide +kernel
theorem dX5_open_23 : decode cX5_open 23 = .ok (.ireturn, 1) := by decide +kernel
set_option maxRecDepth 20000 in
theorem ggX5_close_X0_copyFrom : GoodIn wsX5_close wsX0_copyFrom := goodIn_r _ [7, 8, 9, 10, 11, 12, 13, 14, 15, 16, 17, 18, 19, 20, 21, 22, 23, 24, 25, 26, 27, 91, 92, 93, 94, 95, 96, 97, 98, 99, 100, 101] (by decide +kernel) (by decide +kernel)
set_option maxRecDepth 20000 in
theorem gX5_close_X0_copyFrom : GoodIn wsX5_close (wsV RX5 47 RX0 yX0_copyFrom wsX0_copyFrom) := goodIn_app (goodIn_of _ (by decide +kernel)) ggX5_close_X0_copyFrom
set_option maxRecDepth 20000 in
theorem ggX5_close_X0_closeFile : GoodIn wsX5_close wsX0_closeFile := goodIn_r _ [31, 14, 13, 11, 32, 33, 34, 6, 35, 36, 37, 38, 21, 39, 23, 40, 41, 42, 43, 44, 45, 46, 47, 15, 17, 48, 49, 50, 51, 12, 52, 25, 26, 27, 53, 54, 55, 56, 9, 10, 57, 58, 59, 60, 61, 62, 63, 64, 91, 92, 93, 94, 95, 96, 97, 98, 99, 100, 101] (by decide +kernel) (by decide +kernel)
set_option maxRecDepth 20000 in
theorem gX5_close_X0_closeFile : GoodIn wsX5_close (wsV RX5 62 RX0 yX0_closeFile wsX0_closeFile) := goodIn_app (goodIn_of _ (by decide +kernel)) ggX5_close_X0_closeFile
set_option maxRecDepth 20000 in
theorem ggX5_close_X5_recorded : GoodIn wsX5_close wsX5_recorded := goodIn_r _ [69, 70, 1, 71, 72, 73, 74, 75, 76, 77, 78, 79, 80, 81, 82, 83, 4, 5, 6, 7, 8, 9, 10, 11, 12, 13, 14, 15, 16, 17, 18, 19, 20, 21, 22, 23, 24, 25, 26, 27, 84, 85, 86, 87, 88, 89, 90, 102, 103, 104, 91, 92, 93, 94, 95, 96, 97, 98, 99, 100, 101] (by decide +kernel) (by decide +kernel)
set_option maxRecDepth 20000 in
theorem gX5_close_X5_recorded : GoodIn wsX5_close (wsV RX5 55 RX5 yX5_recorded wsX5_recorded) := goodIn_app (goodIn_of _ (by decide +kernel)) ggX5_close_X5_recorded
theorem dX5_close_0 : decode cX5_close 0 = .ok (.aload_n 0, 1) := by decide +kernel
theorem dX5_close_1 : decode cX5_close 1 = .ok (.getfield 16, 3) := by decide +kernel
theorem dX5_close_4 : decode cX5_close 4 = .ok (.aload_n 0, 1) := by decide +kernel
theorem dX5_close_5 : decode cX5_close 5 = .ok (.getfield 10, 3) := by decide +kernel
theorem dX5_close_8 : decode cX5_close 8 = .ok (.invokevirtual 47, 3) := by decide +kernel
theorem dX5_close_11 : decode cX5_close 11 = .ok (.aload_n 0, 1) := by decide +kernel
theorem dX5_close_12 : decode cX5_close 12 = .ok (.aload_n 0, 1) := by decide +kernel
theorem dX5_close_13 : decode cX5_close 13 = .ok (.getfield 10, 3) := by decide +kernel
theorem dX5_close_16 : decode cX5_close 16 = .ok (.iload_n 1, 1) := by decide +kernel
theorem dX5_close_17 : decode cX5_close 17 = .ok (.invokevirtual 62, 3) := by decide +kernel
theorem dX5_close_20 : decode cX5_close 20 = .ok (.invokevirtual 55, 3) := by decide +kernel
theorem dX5_close_23 : decode cX5_close 23 = .ok (.ireturn, 1) := by decide +kernel
set_option maxRecDepth 20000 in
theorem ggX5_remove_X0_copyFrom : GoodIn wsX5_remove wsX0_copyFrom := goodIn_r _ [7, 8, 9, 10, 11, 12, 13, 14, 15, 16, 17, 18, 19, 20, 21, 22, 23, 24, 25, 26, 27, 79, 80, 81, 82, 83, 84, 85, 86, 87, 88, 89] (by decide +kernel) (by decide +kernel)
set_option maxRecDepth 20000 in
theorem gX5_remove_X0_copyFrom : GoodIn wsX5_remove (wsV RX5 47 RX0 yX0_copyFrom wsX0_copyFrom) := goodIn_app (goodIn_of _ (by decide +kernel)) ggX5_remove_X0_copyFrom
set_option maxRecDepth 20000 in
theorem ggX5_remove_X0_removeFile : GoodIn wsX5_remove wsX0_removeFile := goodIn_r _ [31, 12, 13, 11, 32, 33, 34, 6, 35, 36, 37, 38, 21, 39, 23, 40, 41, 42, 43, 44, 25, 26, 27, 45, 46, 47, 48, 9, 10, 49, 50, 51, 52, 79, 80, 81, 82, 83, 84, 85, 86, 87, 88, 89] (by decide +kernel) (by decide +kernel)
set_option maxRecDepth 20000 in
theorem gX5_remove_X0_removeFile : GoodIn wsX5_remove (wsV RX5 65 RX0 yX0_removeFile wsX0_removeFile) := goodIn_app (goodIn_of _ (by decide +kernel)) ggX5_remove_X0_removeFile
set_option maxRecDepth 20000 in
theorem ggX5_remove_X5_recorded : GoodIn wsX5_remove wsX5_recorded := goodIn_r _ [57, 58, 1, 59, 60, 61, 62, 63, 64, 65, 66, 67, 68, 69, 70, 71, 4, 5, 6, 7, 8, 9, 10, 11, 12, 13, 14, 15, 16, 17, 18, 19, 20, 21, 22, 23, 24, 25, 26, 27, 72, 73, 74, 75, 76, 77, 78, 90, 91, 92, 79, 80, 81, 82, 83, 84, 85, 86, 87, 88, 89] (by decide +kernel) (by decide +kernel)
set_option maxRecDepth 20000 in
theorem gX5_remove_X5_recorded : GoodIn wsX5_remove (wsV RX5 55 RX5 yX5_recorded wsX5_recorded) := goodIn_app (goodIn_of _ (by decide +kernel)) ggX5_remove_X5_recorded
theorem dX5_remove_0 : decode cX5_remove 0 = .ok (.aload_n 0, 1) := by decide +kernel
theorem dX5_remove_1 : decode cX5_remove 1 = .ok (.getfield 16, 3) := by decide +kernel
theorem dX5_remove_4 : decode cX5_remove 4 = .ok (.aload_n 0, 1) := by decide +kernel
theorem dX5_remove_5 : decode cX5_remove 5 = .ok (.getfield 10, 3) := by decide +kernel
theorem dX5_remove_8 : decode cX5_remove 8 = .ok (.invokevirtual 47, 3) := by decide +kernel
theorem dX5_remove_11 : decode cX5_remove 11 = .ok (.aload_n 0, 1) := by decide +kernel
theorem dX5_remove_12 : decode cX5_remove 12 = .ok (.aload_n 0, 1) := by decide +kernel
theorem dX5_remove_13 : decode cX5_remove 13 = .ok (.getfield 10, 3) := by decide +kernel
theorem dX5_remove_16 : decode cX5_remove 16 = .ok (.iload_n 1, 1) := by decide +kernel
theorem dX5_remove_17 : decode cX5_remove 17 = .ok (.invokevirtual 65, 3) := by decide +kernel
theorem dX5_remove_20 : decode cX5_remove 20 = .ok (.invokevirtual 55, 3) := by decide +kernel
theorem dX5_remove_23 : decode cX5_remove 23 = .ok (.ireturn, 1) := by decide +kernel
set_option maxRecDepth 20000 in
theorem ggX5_sync_X0_copyFrom : GoodIn wsX5_sync wsX0_copyFrom := goodIn_r _ [7, 8, 9, 10, 11, 12, 13, 14, 15, 16, 17, 18, 19, 20, 21, 22, 23, 24, 25, 26, 27, 75, 76, 77, 78, 79, 80, 81, 82, 83, 84, 85] (by decide +kernel) (by decide +kernel)
set_option maxRecDepth 20000 in
theorem gX5_sync_X0_copyFrom : GoodIn wsX5_sync (wsV RX5 47 RX0 yX0_copyFrom wsX0_copyFrom) := goodIn_app (goodIn_of _ (by decide +kernel)) ggX5_sync_X0_copyFrom
set_option maxRecDepth 20000 in
theorem ggX5_sync_X0_syncFile : GoodIn wsX5_sync wsX0_syncFile := goodIn_r _ [31, 13, 14, 32, 33, 34, 6, 35, 11, 36, 37, 38, 21, 39, 23, 40, 41, 42, 43, 44, 25, 26, 27, 45, 46, 47, 48, 75, 76, 77, 78, 79, 80, 81, 82, 83, 84, 85] (by decide +kernel) (by decide +kernel)
set_option maxRecDepth 20000 in
theorem gX5_sync_X0_syncFile : GoodIn wsX5_sync (wsV RX5 68 RX0 yX0_syncFile wsX0_syncFile) := goodIn_app (goodIn_of _ (by decide +kernel)) ggX5_sync_X0_syncFile
set_option maxRecDepth 20000 in
theorem ggX5_sync_X5_recorded : GoodIn wsX5_sync wsX5_recorded := goodIn_r _ [53, 54, 1, 55, 56, 57, 58, 59, 60, 61, 62, 63, 64, 65, 66, 67, 4, 5, 6, 7, 8, 9, 10, 11, 12, 13, 14, 15, 16, 17, 18, 19, 20, 21, 22, 23, 24, 25, 26, 27, 68, 69, 70, 71, 72, 73, 74, 86, 87, 88, 75, 76, 77, 78, 79, 80, 81, 82, 83, 84, 85] (by decide +kernel) (by decide +kernel)
set_option maxRecDepth 20000 in
theorem gX5_sync_X5_recorded : GoodIn wsX5_sync (wsV RX5 55 RX5 yX5_recorded wsX5_recorded) := goodIn_app (goodIn_of _ (by decide +kernel)) ggX5_sync_X5_recorded
theorem dX5_sync_0 : decode cX5_sync 0 = .ok (.aload_n 0, 1) := by decide +kernel
theorem dX5_sync_1 : decode cX5_sync 1 = .ok (.getfield 16, 3) := by decide +kernel
theorem dX5_sync_4 : decode cX5_sync 4 = .ok (.aload_n 0, 1) := by decide +kernel
theorem dX5_sync_5 : decode cX5_sync 5 = .ok (.getfield 10, 3) := by decide +kernel
theorem dX5_sync_8 : decode cX5_sync 8 = .ok (.invokevirtual 47, 3) := by decide +kernel
theorem dX5_sync_11 : decode cX5_sync 11 = .ok (.aload_n 0, 1) := by decide +kernel
theorem dX5_sync_12 : decode cX5_sync 12 = .ok (.aload_n 0, 1) := by decide +kernel
theorem dX5_sync_13 : decode cX5_sync 13 = .ok (.getfield 10, 3) := by decide +kernel
theorem dX5_sync_16 : decode cX5_sync 16 = .ok (.iload_n 1, 1) := by decide +kernel
theorem dX5_sync_17 : decode cX5_sync 17 = .ok (.invokevirtual 68, 3) := by decide +kernel
theorem dX5_sync_20 : decode cX5_sync 20 = .ok (.invokevirtual 55, 3) := by decide +kernel
theorem dX5_sync_23 : decode cX5_sync 23 = .ok (.ireturn, 1) := by decide +kernel
set_option maxRecDepth 20000 in
theorem ggX5_append_X0_copyFrom : GoodIn wsX5_append wsX0_copyFrom := goodIn_r _ [7, 8, 9, 10, 11, 12, 13, 14, 15, 16, 17, 18, 19, 20, 21, 22, 23, 24, 25, 26, 27, 155, 156, 157, 158, 159, 160, 161, 162, 163, 164, 165] (by decide +kernel) (by decide +kernel)
set_option maxRecDepth 20000 in
theorem gX5_append_X0_copyFrom : GoodIn wsX5_append (wsV RX5 47 RX0 yX0_copyFrom wsX0_copyFrom) := goodIn_app (goodIn_of _ (by decide +kernel)) ggX5_append_X0_copyFrom
set_option maxRecDepth 20000 in
theorem ggX5_append_X0_appendTo : GoodIn wsX5_append wsX0_appendTo := goodIn_r _ [31, 32, 33, 34, 6, 35, 11, 36, 37, 38, 21, 39, 23, 40, 41, 42, 43, 44, 45, 46, 47, 48, 49, 50, 51, 13, 52, 25, 26, 27, 53, 54, 55, 56, 12, 57, 58, 59, 60, 17, 61, 62, 63, 64, 9, 65, 66, 67, 68, 69, 70, 71, 72, 15, 73, 74, 75, 76, 10, 77, 78, 79, 80, 81, 82, 83, 84, 85, 86, 87, 88, 16, 89, 90, 91, 92, 93, 94, 95, 96, 97, 98, 99, 100, 101, 102, 103, 104, 105, 106, 107, 108, 109, 110, 111, 112, 113, 114, 115, 116, 8, 117, 118, 119, 120, 121, 122, 123, 124, 125, 126, 127, 128, 155, 156, 157, 158, 159, 160, 161, 162, 163, 164, 165] (by decide +kernel) (by decide +kernel)
set_option maxRecDepth 20000 in
theorem gX5_append_X0_appendTo : GoodIn wsX5_append (wsV RX5 71 RX0 yX0_appendTo wsX0_appendTo) := goodIn_app (goodIn_of _ (by decide +kernel)) ggX5_append_X0_appendTo
set_option maxRecDepth 20000 in
theorem ggX5_append_X5_recorded : GoodIn wsX5_append wsX5_recorded := goodIn_r _ [133, 134, 1, 135, 136, 137, 138, 139, 140, 141, 142, 143, 144, 145, 146, 147, 4, 5, 6, 7, 8, 9, 10, 11, 12, 13, 14, 15, 16, 17, 18, 19, 20, 21, 22, 23, 24, 25, 26, 27, 148, 149, 150, 151, 152, 153, 154, 166, 167, 168, 155, 156, 157, 158, 159, 160, 161, 162, 163, 164, 165] (by decide +kernel) (by decide +kernel)
set_option maxRecDepth 20000 in
theorem gX5_append_X5_recorded : GoodIn wsX5_append (wsV RX5 55 RX5 yX5_recorded wsX5_recorded) := goodIn_app (goodIn_of _ (by decide +kernel)) ggX5_append_X5_recorded
theorem dX5_append_0 : decode cX5_append 0 = .ok (.aload_n 0, 1) := by decide +kernel
theorem dX5_append_1 : decode cX5_append 1 = .ok (.getfield 16, 3) := by decide +kernel
theorem dX5_append_4 : decode cX5_append 4 = .ok (.aload_n 0, 1) := by decide +kernel
theorem dX5_append_5 : decode cX5_append 5 = .ok (.getfield 10, 3) := by decide +kernel
theorem dX5_append_8 : decode cX5_append 8 = .ok (.invokevirtual 47, 3) := by decide +kernel
theorem dX5_append_11 : decode cX5_append 11 = .ok (.aload_n 0, 1) := by decide +kernel
theorem dX5_append_12 : decode cX5_append 12 = .ok (.aload_n 0, 1) := by decide +kernel
theorem dX5_append_13 : decode cX5_append 13 = .ok (.getfield 10, 3) := by decide +kernel
theorem dX5_append_16 : decode cX5_append 16 = .ok (.iload_n 1, 1) := by decide +kernel
theorem dX5_append_17 : decode cX5_append 17 = .ok (.iload_n 2, 1) := by decide +kernel
theorem dX5_append_18 : decode cX5_append 18 = .ok (.iload_n 3, 1) := by decide +kernel
theorem dX5_append_19 : decode cX5_append 19 = .ok (.invokevirtual 71, 3) := by decide +kernel
theorem dX5_append_22 : decode cX5_append 22 = .ok (.invokevirtual 55, 3) := by decide +kernel
theorem dX5_append_25 : decode cX5_append 25 = .ok (.ireturn, 1) := by decide +kernel
set_option maxRecDepth 20000 in
theorem ggX5_cut_X0_copyFrom : GoodIn wsX5_cut wsX0_copyFrom := goodIn_r _ [7, 8, 9, 10, 11, 12, 13, 14, 15, 16, 17, 18, 19, 20, 21, 22, 23, 24, 25, 26, 27, 95, 96, 97, 98, 99, 100, 101, 102, 103, 104, 105] (by decide +kernel) (by decide +kernel)
set_option maxRecDepth 20000 in
theorem gX5_cut_X0_copyFrom : GoodIn wsX5_cut (wsV RX5 47 RX0 yX0_copyFrom wsX0_copyFrom) := goodIn_app (goodIn_of _ (by decide +kernel)) ggX5_cut_X0_copyFrom
set_option maxRecDepth 20000 in
theorem ggX5_cut_X0_cutFile : GoodIn wsX5_cut wsX0_cutFile := goodIn_r _ [31, 13, 12, 14, 32, 33, 34, 35, 36, 37, 38, 6, 39, 11, 40, 41, 42, 21, 43, 23, 44, 45, 46, 47, 48, 25, 26, 27, 49, 50, 51, 52, 15, 17, 53, 54, 55, 56, 57, 58, 59, 60, 9, 10, 61, 62, 63, 64, 65, 66, 67, 68, 95, 96, 97, 98, 99, 100, 101, 102, 103, 104, 105] (by decide +kernel) (by decide +kernel)
set_option maxRecDepth 20000 in
theorem gX5_cut_X0_cutFile : GoodIn wsX5_cut (wsV RX5 75 RX0 yX0_cutFile wsX0_cutFile) := goodIn_app (goodIn_of _ (by decide +kernel)) ggX5_cut_X0_cutFile
set_option maxRecDepth 20000 in
theorem ggX5_cut_X5_recorded : GoodIn wsX5_cut wsX5_recorded := goodIn_r _ [73, 74, 1, 75, 76, 77, 78, 79, 80, 81, 82, 83, 84, 85, 86, 87, 4, 5, 6, 7, 8, 9, 10, 11, 12, 13, 14, 15, 16, 17, 18, 19, 20, 21, 22, 23, 24, 25, 26, 27, 88, 89, 90, 91, 92, 93, 94, 106, 107, 108, 95, 96, 97, 98, 99, 100, 101, 102, 103, 104, 105] (by decide +kernel) (by decide +kernel)
set_option maxRecDepth 20000 in
theorem gX5_cut_X5_recorded : GoodIn wsX5_cut (wsV RX5 55 RX5 yX5_recorded wsX5_recorded) := goodIn_app (goodIn_of _ (by decide +kernel)) ggX5_cut_X5_recorded
theorem dX5_cut_0 : decode cX5_cut 0 = .ok (.aload_n 0, 1) := by decide +kernel
theorem dX5_cut_1 : decode cX5_cut 1 = .ok (.getfield 16, 3) := by decide +kernel
theorem dX5_cut_4 : decode cX5_cut 4 = .ok (.aload_n 0, 1) := by decide +kernel
theorem dX5_cut_5 : decode cX5_cut 5 = .ok (.getfield 10, 3) := by decide +kernel
theorem dX5_cut_8 : decode cX5_cut 8 = .ok (.invokevirtual 47, 3) := by decide +kernel
theorem dX5_cut_11 : decode cX5_cut 11 = .ok (.aload_n 0, 1) := by decide +kernel
theorem dX5_cut_12 : decode cX5_cut 12 = .ok (.aload_n 0, 1) := by decide +kernel
theorem dX5_cut_13 : decode cX5_cut 13 = .ok (.getfield 10, 3) := by decide +kernel
theorem dX5_cut_16 : decode cX5_cut 16 = .ok (.iload_n 1, 1) := by decide +kernel
theorem dX5_cut_17 : decode cX5_cut 17 = .ok (.iload_n 2, 1) := by decide +kernel
theorem dX5_cut_18 : decode cX5_cut 18 = .ok (.invokevirtual 75, 3) := by decide +kernel
theorem dX5_cut_21 : decode cX5_cut 21 = .ok (.invokevirtual 55, 3) := by decide +kernel
theorem dX5_cut_24 : decode cX5_cut 24 = .ok (.ireturn, 1) := by decide +kernel
set_option maxRecDepth 20000 in
theorem ggX5_crash_X0_copyFrom : GoodIn wsX5_crash wsX0_copyFrom := goodIn_r _ [7, 8, 9, 10, 11, 12, 13, 14, 15, 16, 17, 18, 19, 20, 21, 22, 23, 24, 25, 26, 27, 75, 76, 77, 78, 79, 80, 81, 82, 83, 84, 85] (by decide +kernel) (by decide +kernel)
set_option maxRecDepth 20000 in
theorem gX5_crash_X0_copyFrom : GoodIn wsX5_crash (wsV RX5 47 RX0 yX0_copyFrom wsX0_copyFrom) := goodIn_app (goodIn_of _ (by decide +kernel)) ggX5_crash_X0_copyFrom
set_option maxRecDepth 20000 in
theorem ggX5_crash_X0_crashAll : GoodIn wsX5_crash wsX0_crashAll := goodIn_r _ [31, 13, 14, 15, 11, 17, 32, 33, 34, 6, 35, 36, 37, 38, 21, 39, 23, 40, 25, 26, 27, 41, 42, 43, 44, 45, 46, 47, 48, 75, 76, 77, 78, 79, 80, 81, 82, 83, 84, 85] (by decide +kernel) (by decide +kernel)
set_option maxRecDepth 20000 in
theorem gX5_crash_X0_crashAll : GoodIn wsX5_crash (wsV RX5 79 RX0 yX0_crashAll wsX0_crashAll) := goodIn_app (goodIn_of _ (by decide +kernel)) ggX5_crash_X0_crashAll
set_option maxRecDepth 20000 in
theorem ggX5_crash_X5_recorded : GoodIn wsX5_crash wsX5_recorded := goodIn_r _ [53, 54, 1, 55, 56, 57, 58, 59, 60, 61, 62, 63, 64, 65, 66, 67, 4, 5, 6, 7, 8, 9, 10, 11, 12, 13, 14, 15, 16, 17, 18, 19, 20, 21, 22, 23, 24, 25, 26, 27, 68, 69, 70, 71, 72, 73, 74, 86, 87, 88, 75, 76, 77, 78, 79, 80, 81, 82, 83, 84, 85] (by decide +kernel) (by decide +kernel)
set_option maxRecDepth 20000 in
theorem gX5_crash_X5_recorded : GoodIn wsX5_crash (wsV RX5 55 RX5 yX5_recorded wsX5_recorded) := goodIn_app (goodIn_of _ (by decide +kernel)) ggX5_crash_X5_recorded
theorem dX5_crash_0 : decode cX5_crash 0 = .ok (.aload_n 0, 1) := by decide +kernel
theorem dX5_crash_1 : decode cX5_crash 1 = .ok (.getfield 16, 3) := by decide +kernel
theorem dX5_crash_4 : decode cX5_crash 4 = .ok (.aload_n 0, 1) := by decide +kernel
theorem dX5_crash_5 : decode cX5_crash 5 = .ok (.getfield 10, 3) := by decide +kernel
theorem dX5_crash_8 : decode cX5_crash 8 = .ok (.invokevirtual 47, 3) := by decide +kernel
theorem dX5_crash_11 : decode cX5_crash 11 = .ok (.aload_n 0, 1) := by decide +kernel
theorem dX5_crash_12 : decode cX5_crash 12 = .ok (.aload_n 0, 1) := by decide +kernel
theorem dX5_crash_13 : decode cX5_crash 13 = .ok (.getfield 10, 3) := by decide +kernel
theorem dX5_crash_16 : decode cX5_crash 16 = .ok (.invokevirtual 79, 3) := by decide +kernel
theorem dX5_crash_19 : decode cX5_crash 19 = .ok (.invokevirtual 55, 3) := by decide +kernel
theorem dX5_crash_22 : decode cX5_crash 22 = .ok (.ireturn, 1) := by decide +kernel
set_option maxRecDepth 20000 in
theorem ggX5_mend_X0_copyFrom : GoodIn wsX5_mend wsX0_copyFrom := goodIn_r _ [7, 8, 9, 10, 11, 12, 13, 14, 15, 16, 17, 18, 19, 20, 21, 22, 23, 24, 25, 26, 27, 83, 84, 85, 86, 87, 88, 89, 90, 91, 92, 93] (by decide +kernel) (by decide +kernel)
set_option maxRecDepth 20000 in
theorem gX5_mend_X0_copyFrom : GoodIn wsX5_mend (wsV RX5 47 RX0 yX0_copyFrom wsX0_copyFrom) := goodIn_app (goodIn_of _ (by decide +kernel)) ggX5_mend_X0_copyFrom
set_option maxRecDepth 20000 in
theorem ggX5_mend_X0_mendAll : GoodIn wsX5_mend wsX0_mendAll := goodIn_r _ [31, 11, 32, 33, 34, 21, 35, 23, 36, 37, 38, 6, 39, 13, 15, 17, 40, 41, 42, 43, 12, 44, 25, 26, 27, 45, 46, 47, 48, 9, 10, 49, 50, 51, 52, 53, 54, 55, 56, 83, 84, 85, 86, 87, 88, 89, 90, 91, 92, 93] (by decide +kernel) (by decide +kernel)
set_option maxRecDepth 20000 in
theorem gX5_mend_X0_mendAll : GoodIn wsX5_mend (wsV RX5 82 RX0 yX0_mendAll wsX0_mendAll) := goodIn_app (goodIn_of _ (by decide +kernel)) ggX5_mend_X0_mendAll
set_option maxRecDepth 20000 in
theorem ggX5_mend_X5_recorded : GoodIn wsX5_mend wsX5_recorded := goodIn_r _ [61, 62, 1, 63, 64, 65, 66, 67, 68, 69, 70, 71, 72, 73, 74, 75, 4, 5, 6, 7, 8, 9, 10, 11, 12, 13, 14, 15, 16, 17, 18, 19, 20, 21, 22, 23, 24, 25, 26, 27, 76, 77, 78, 79, 80, 81, 82, 94, 95, 96, 83, 84, 85, 86, 87, 88, 89, 90, 91, 92, 93] (by decide +kernel) (by decide +kernel)
set_option maxRecDepth 20000 in
theorem gX5_mend_X5_recorded : GoodIn wsX5_mend (wsV RX5 55 RX5 yX5_recorded wsX5_recorded) := goodIn_app (goodIn_of _ (by decide +kernel)) ggX5_mend_X5_recorded
theorem dX5_mend_0 : decode cX5_mend 0 = .ok (.aload_n 0, 1) := by decide +kernel
theorem dX5_mend_1 : decode cX5_mend 1 = .ok (.getfield 16, 3) := by decide +kernel
theorem dX5_mend_4 : decode cX5_mend 4 = .ok (.aload_n 0, 1) := by decide +kernel
theorem dX5_mend_5 : decode cX5_mend 5 = .ok (.getfield 10, 3) := by decide +kernel
theorem dX5_mend_8 : decode cX5_mend 8 = .ok (.invokevirtual 47, 3) := by decide +kernel
theorem dX5_mend_11 : decode cX5_mend 11 = .ok (.aload_n 0, 1) := by decide +kernel
theorem dX5_mend_12 : decode cX5_mend 12 = .ok (.aload_n 0, 1) := by decide +kernel
theorem dX5_mend_13 : decode cX5_mend 13 = .ok (.getfield 10, 3) := by decide +kernel
theorem dX5_mend_16 : decode cX5_mend 16 = .ok (.invokevirtual 82, 3) := by decide +kernel
theorem dX5_mend_19 : decode cX5_mend 19 = .ok (.invokevirtual 55, 3) := by decide +kernel
theorem dX5_mend_22 : decode cX5_mend 22 = .ok (.ireturn, 1) := by decide +kernel
set_option maxRecDepth 20000 in
theorem ggX5_set_X0_copyFrom : GoodIn wsX5_set wsX0_copyFrom := goodIn_r _ [7, 8, 9, 10, 11, 12, 13, 14, 15, 16, 17, 18, 19, 20, 21, 22, 23, 24, 25, 26, 27, 63, 64, 65, 66, 67, 68, 69, 70, 71, 72, 73] (by decide +kernel) (by decide +kernel)
set_option maxRecDepth 20000 in
theorem gX5_set_X0_copyFrom : GoodIn wsX5_set (wsV RX5 47 RX0 yX0_copyFrom wsX0_copyFrom) := goodIn_app (goodIn_of _ (by decide +kernel)) ggX5_set_X0_copyFrom
set_option maxRecDepth 20000 in
theorem ggX5_set_X0_changeSetting : GoodIn wsX5_set wsX0_changeSetting := goodIn_r _ [31, 16, 32, 25, 26, 21, 27, 23, 33, 34, 35, 36, 63, 64, 65, 66, 67, 68, 69, 70, 71, 72, 73] (by decide +kernel) (by decide +kernel)
set_option maxRecDepth 20000 in
theorem gX5_set_X0_changeSetting : GoodIn wsX5_set (wsV RX5 85 RX0 yX0_changeSetting wsX0_changeSetting) := goodIn_app (goodIn_of _ (by decide +kernel)) ggX5_set_X0_changeSetting
set_option maxRecDepth 20000 in
theorem ggX5_set_X5_recorded : GoodIn wsX5_set wsX5_recorded := goodIn_r _ [41, 42, 1, 43, 44, 45, 46, 47, 48, 49, 50, 51, 52, 53, 54, 55, 4, 5, 6, 7, 8, 9, 10, 11, 12, 13, 14, 15, 16, 17, 18, 19, 20, 21, 22, 23, 24, 25, 26, 27, 56, 57, 58, 59, 60, 61, 62, 74, 75, 76, 63, 64, 65, 66, 67, 68, 69, 70, 71, 72, 73] (by decide +kernel) (by decide +kernel)
set_option maxRecDepth 20000 in
theorem gX5_set_X5_recorded : GoodIn wsX5_set (wsV RX5 55 RX5 yX5_recorded wsX5_recorded) := goodIn_app (goodIn_of _ (by decide +kernel)) ggX5_set_X5_recorded
theorem dX5_set_0 : decode cX5_set 0 = .ok (.aload_n 0, 1) := by decide +kernel
theorem dX5_set_1 : decode cX5_set 1 = .ok (.getfield 16, 3) := by decide +kernel
theorem dX5_set_4 : decode cX5_set 4 = .ok (.aload_n 0, 1) := by decide +kernel
theorem dX5_set_5 : decode cX5_set 5 = .ok (.getfield 10, 3) := by decide +kernel
theorem dX5_set_8 : decode cX5_set 8 = .ok (.invokevirtual 47, 3) := by decide +kernel
theorem dX5_set_11 : decode cX5_set 11 = .ok (.aload_n 0, 1) := by decide +kernel
theorem dX5_set_12 : decode cX5_set 12 = .ok (.aload_n 0, 1) := by decide +kernel
theorem dX5_set_13 : decode cX5_set 13 = .ok (.getfield 10, 3) := by decide +kernel
theorem dX5_set_16 : decode cX5_set 16 = .ok (.iload_n 1, 1) := by decide +kernel
theorem dX5_set_17 : decode cX5_set 17 = .ok (.iload_n 2, 1) := by decide +kernel
theorem dX5_set_18 : decode cX5_set 18 = .ok (.invokevirtual 85, 3) := by decide +kernel
theorem dX5_set_21 : decode cX5_set 21 = .ok (.invokevirtual 55, 3) := by decide +kernel
theorem dX5_set_24 : decode cX5_set 24 = .ok (.ireturn, 1) := by decide +kernel
set_option maxRecDepth 20000 in
theorem ggX5_undo_X1_takeLatest : GoodIn wsX5_undo wsX1_takeLatest := goodIn_r _ [7, 8, 9, 10, 11, 6, 12, 13, 14, 15, 16, 17, 18, 19, 20, 21, 22, 23, 24, 25, 26, 27, 28, 29, 30, 31, 32, 33, 34, 35, 36, 37, 38, 39, 51, 52, 53, 54, 55, 56, 57, 58, 59, 60, 61, 62, 63, 64] (by decide +kernel) (by decide +kernel)
set_option maxRecDepth 20000 in
theorem gX5_undo_X1_takeLatest : GoodIn wsX5_undo (wsV RX5 117 RX1 yX1_takeLatest wsX1_takeLatest) := goodIn_app (goodIn_of _ (by decide +kernel)) ggX5_undo_X1_takeLatest
set_option maxRecDepth 20000 in
theorem ggX5_undo_X1_size : GoodIn wsX5_undo wsX1_size := goodIn_r _ [43, 8, 51, 52, 53] (by decide +kernel) (by decide +kernel)
set_option maxRecDepth 20000 in
theorem gX5_undo_X1_size : GoodIn wsX5_undo (wsV RX5 121 RX1 yX1_size wsX1_size) := goodIn_app (goodIn_of _ (by decide +kernel)) ggX5_undo_X1_size
theorem dX5_undo_0 : decode cX5_undo 0 = .ok (.aload_n 0, 1) := by decide +kernel
theorem dX5_undo_1 : decode cX5_undo 1 = .ok (.getfield 29, 3) := by decide +kernel
theorem dX5_undo_4 : decode cX5_undo 4 = .ok (.aload_n 0, 1) := by decide +kernel
theorem dX5_undo_5 : decode cX5_undo 5 = .ok (.getfield 10, 3) := by decide +kernel
theorem dX5_undo_8 : decode cX5_undo 8 = .ok (.invokevirtual 117, 3) := by decide +kernel
theorem dX5_undo_11 : decode cX5_undo 11 = .ok (.ifCond .eq 13, 3) := by decide +kernel
theorem dX5_undo_14 : decode cX5_undo 14 = .ok (.aload_n 0, 1) := by decide +kernel
theorem dX5_undo_15 : decode cX5_undo 15 = .ok (.getfield 29, 3) := by decide +kernel
theorem dX5_undo_18 : decode cX5_undo 18 = .ok (.invokevirtual 121, 3) := by decide +kernel
theorem dX5_undo_21 : decode cX5_undo 21 = .ok (.goto 5, 3) := by decide +kernel
theorem dX5_undo_24 : decode cX5_undo 24 = .ok (.bipush (-5), 2) := by decide +kernel
theorem dX5_undo_26 : decode cX5_undo 26 = .ok (.ireturn, 1) := by decide +kernel
set_option maxRecDepth 20000 in
theorem ggX5_block_X0_ownerOf : GoodIn wsX5_block wsX0_ownerOf := goodIn_r _ [6, 7, 8, 9, 10, 11, 12, 13, 40, 41, 42, 43, 44, 45, 46, 47, 48, 49, 50] (by decide +kernel) (by decide +kernel)
set_option maxRecDepth 20000 in
theorem gX5_block_X0_ownerOf : GoodIn wsX5_block (wsV RX5 127 RX0 yX0_ownerOf wsX0_ownerOf) := goodIn_app (goodIn_of _ (by decide +kernel)) ggX5_block_X0_ownerOf
set_option maxRecDepth 20000 in
theorem ggX5_block_X0_useOf : GoodIn wsX5_block wsX0_useOf := goodIn_r _ [17, 7, 18, 19, 20, 21, 22, 11, 23, 13, 8, 9, 10, 12, 40, 41, 42, 43, 44, 45, 46, 47, 48, 49, 50] (by decide +kernel) (by decide +kernel)
set_option maxRecDepth 20000 in
theorem gX5_block_X0_useOf : GoodIn wsX5_block (wsV RX5 130 RX0 yX0_useOf wsX0_useOf) := goodIn_app (goodIn_of _ (by decide +kernel)) ggX5_block_X0_useOf
set_option maxRecDepth 20000 in
theorem ggX5_block_X0_placeOf : GoodIn wsX5_block wsX0_placeOf := goodIn_r _ [27, 18, 8, 9, 10, 11, 12, 13, 40, 41, 42, 43, 44, 45, 46, 47, 48, 49, 50] (by decide +kernel) (by decide +kernel)
set_option maxRecDepth 20000 in
theorem gX5_block_X0_placeOf : GoodIn wsX5_block (wsV RX5 133 RX0 yX0_placeOf wsX0_placeOf) := goodIn_app (goodIn_of _ (by decide +kernel)) ggX5_block_X0_placeOf
set_option maxRecDepth 20000 in
theorem ggX5_block_X0_stampOf : GoodIn wsX5_block wsX0_stampOf := goodIn_r _ [31, 32, 8, 9, 10, 11, 12, 13, 40, 41, 42, 43, 44, 45, 46, 47, 48, 49, 50] (by decide +kernel) (by decide +kernel)
set_option maxRecDepth 20000 in
theorem gX5_block_X0_stampOf : GoodIn wsX5_block (wsV RX5 136 RX0 yX0_stampOf wsX0_stampOf) := goodIn_app (goodIn_of _ (by decide +kernel)) ggX5_block_X0_stampOf
theorem dX5_block_0 : decode cX5_block 0 = .ok (.iload_n 1, 1) := by decide +kernel
theorem dX5_block_1 : decode cX5_block 1 = .ok (.ifCond .lt 9, 3) := by decide +kernel
theorem dX5_block_4 : decode cX5_block 4 = .ok (.iload_n 1, 1) := by decide +kernel
theorem dX5_block_5 : decode cX5_block 5 = .ok (.bipush 64, 2) := by decide +kernel
theorem dX5_block_7 : decode cX5_block 7 = .ok (.if_icmp .lt 5, 3) := by decide +kernel
theorem dX5_block_10 : decode cX5_block 10 = .ok (.iconst (-1), 1) := by decide +kernel
theorem dX5_block_11 : decode cX5_block 11 = .ok (.ireturn, 1) := by decide +kernel
theorem dX5_block_12 : decode cX5_block 12 = .ok (.iload_n 2, 1) := by decide +kernel
theorem dX5_block_13 : decode cX5_block 13 = .ok (.tableswitch 67 0 3 #[31, 40, 49, 58], 31) := by decide +kernel
theorem dX5_block_44 : decode cX5_block 44 = .ok (.aload_n 0, 1) := by decide +kernel
theorem dX5_block_45 : decode cX5_block 45 = .ok (.getfield 10, 3) := by decide +kernel
theorem dX5_block_48 : decode cX5_block 48 = .ok (.iload_n 1, 1) := by decide +kernel
theorem dX5_block_49 : decode cX5_block 49 = .ok (.invokevirtual 127, 3) := by decide +kernel
theorem dX5_block_52 : decode cX5_block 52 = .ok (.ireturn, 1) := by decide +kernel
theorem dX5_block_53 : decode cX5_block 53 = .ok (.aload_n 0, 1) := by decide +kernel
theorem dX5_block_54 : decode cX5_block 54 = .ok (.getfield 10, 3) := by decide +kernel
theorem dX5_block_57 : decode cX5_block 57 = .ok (.iload_n 1, 1) := by decide +kernel
theorem dX5_block_58 : decode cX5_block 58 = .ok (.invokevirtual 130, 3) := by decide +kernel
theorem dX5_block_61 : decode cX5_block 61 = .ok (.ireturn, 1) := by decide +kernel
theorem dX5_block_62 : decode cX5_block 62 = .ok (.aload_n 0, 1) := by decide +kernel
theorem dX5_block_63 : decode cX5_block 63 = .ok (.getfield 10, 3) := by decide +kernel
theorem dX5_block_66 : decode cX5_block 66 = .ok (.iload_n 1, 1) := by decide +kernel
theorem dX5_block_67 : decode cX5_block 67 = .ok (.invokevirtual 133, 3) := by decide +kernel
theorem dX5_block_70 : decode cX5_block 70 = .ok (.ireturn, 1) := by decide +kernel
theorem dX5_block_71 : decode cX5_block 71 = .ok (.aload_n 0, 1) := by decide +kernel
theorem dX5_block_72 : decode cX5_block 72 = .ok (.getfield 10, 3) := by decide +kernel
theorem dX5_block_75 : decode cX5_block 75 = .ok (.iload_n 1, 1) := by decide +kernel
theorem dX5_block_76 : decode cX5_block 76 = .ok (.invokevirtual 136, 3) := by decide +kernel
theorem dX5_block_79 : decode cX5_block 79 = .ok (.ireturn, 1) := by decide +kernel
theorem dX5_block_80 : decode cX5_block 80 = .ok (.bipush (-2), 2) := by decide +kernel
theorem dX5_block_82 : decode cX5_block 82 = .ok (.ireturn, 1) := by decide +kernel
set_option maxRecDepth 20000 in
theorem ggX5_file_X0_isFile : GoodIn wsX5_file wsX0_isFile := goodIn_r _ [6, 7, 8, 9, 10, 11, 12, 13, 59, 60, 61, 62, 63, 64, 65, 66, 67, 68, 69] (by decide +kernel) (by decide +kernel)
set_option maxRecDepth 20000 in
theorem gX5_file_X0_isFile : GoodIn wsX5_file (wsV RX5 139 RX0 yX0_isFile wsX0_isFile) := goodIn_app (goodIn_of _ (by decide +kernel)) ggX5_file_X0_isFile
set_option maxRecDepth 20000 in
theorem ggX5_file_X0_sizeOf : GoodIn wsX5_file wsX0_sizeOf := goodIn_r _ [17, 18, 19, 20, 21, 11, 22, 13, 59, 60, 61, 62, 63, 64, 65, 66, 67, 68, 69] (by decide +kernel) (by decide +kernel)
set_option maxRecDepth 20000 in
theorem gX5_file_X0_sizeOf : GoodIn wsX5_file (wsV RX5 142 RX0 yX0_sizeOf wsX0_sizeOf) := goodIn_app (goodIn_of _ (by decide +kernel)) ggX5_file_X0_sizeOf
set_option maxRecDepth 20000 in
theorem ggX5_file_X0_lentOf : GoodIn wsX5_file wsX0_lentOf := goodIn_r _ [26, 27, 18, 19, 20, 21, 11, 22, 13, 59, 60, 61, 62, 63, 64, 65, 66, 67, 68, 69] (by decide +kernel) (by decide +kernel)
set_option maxRecDepth 20000 in
theorem gX5_file_X0_lentOf : GoodIn wsX5_file (wsV RX5 145 RX0 yX0_lentOf wsX0_lentOf) := goodIn_app (goodIn_of _ (by decide +kernel)) ggX5_file_X0_lentOf
set_option maxRecDepth 20000 in
theorem ggX5_file_X0_safeSizeOf : GoodIn wsX5_file wsX0_safeSizeOf := goodIn_r _ [31, 32, 19, 20, 21, 11, 22, 13, 59, 60, 61, 62, 63, 64, 65, 66, 67, 68, 69] (by decide +kernel) (by decide +kernel)
set_option maxRecDepth 20000 in
theorem gX5_file_X0_safeSizeOf : GoodIn wsX5_file (wsV RX5 148 RX0 yX0_safeSizeOf wsX0_safeSizeOf) := goodIn_app (goodIn_of _ (by decide +kernel)) ggX5_file_X0_safeSizeOf
set_option maxRecDepth 20000 in
theorem ggX5_file_X0_isOpen : GoodIn wsX5_file wsX0_isOpen := goodIn_r _ [36, 7, 8, 9, 10, 11, 12, 13, 59, 60, 61, 62, 63, 64, 65, 66, 67, 68, 69] (by decide +kernel) (by decide +kernel)
set_option maxRecDepth 20000 in
theorem gX5_file_X0_isOpen : GoodIn wsX5_file (wsV RX5 151 RX0 yX0_isOpen wsX0_isOpen) := goodIn_app (goodIn_of _ (by decide +kernel)) ggX5_file_X0_isOpen
set_option maxRecDepth 20000 in
theorem ggX5_file_X0_extentsOf : GoodIn wsX5_file wsX0_extentsOf := goodIn_r _ [40, 41, 8, 9, 10, 11, 12, 13, 42, 43, 44, 5, 45, 46, 19, 20, 21, 22, 59, 60, 61, 62, 63, 64, 65, 66, 67, 68, 69] (by decide +kernel) (by decide +kernel)
set_option maxRecDepth 20000 in
theorem gX5_file_X0_extentsOf : GoodIn wsX5_file (wsV RX5 154 RX0 yX0_extentsOf wsX0_extentsOf) := goodIn_app (goodIn_of _ (by decide +kernel)) ggX5_file_X0_extentsOf
set_option maxRecDepth 20000 in
theorem ggX5_file_X0_lendOf : GoodIn wsX5_file wsX0_lendOf := goodIn_r _ [50, 51, 19, 20, 21, 11, 22, 13, 59, 60, 61, 62, 63, 64, 65, 66, 67, 68, 69] (by decide +kernel) (by decide +kernel)
set_option maxRecDepth 20000 in
theorem gX5_file_X0_lendOf : GoodIn wsX5_file (wsV RX5 157 RX0 yX0_lendOf wsX0_lendOf) := goodIn_app (goodIn_of _ (by decide +kernel)) ggX5_file_X0_lendOf
theorem dX5_file_0 : decode cX5_file 0 = .ok (.aload_n 0, 1) := by decide +kernel
theorem dX5_file_1 : decode cX5_file 1 = .ok (.getfield 10, 3) := by decide +kernel
theorem dX5_file_4 : decode cX5_file 4 = .ok (.iload_n 1, 1) := by decide +kernel
theorem dX5_file_5 : decode cX5_file 5 = .ok (.invokevirtual 139, 3) := by decide +kernel
theorem dX5_file_8 : decode cX5_file 8 = .ok (.ifCond .ne 5, 3) := by decide +kernel
theorem dX5_file_11 : decode cX5_file 11 = .ok (.iconst (-1), 1) := by decide +kernel
theorem dX5_file_12 : decode cX5_file 12 = .ok (.ireturn, 1) := by decide +kernel
theorem dX5_file_13 : decode cX5_file 13 = .ok (.iload_n 2, 1) := by decide +kernel
theorem dX5_file_14 : decode cX5_file 14 = .ok (.tableswitch 100 0 5 #[38, 47, 56, 65, 82, 91], 38) := by decide +kernel
theorem dX5_file_52 : decode cX5_file 52 = .ok (.aload_n 0, 1) := by decide +kernel
theorem dX5_file_53 : decode cX5_file 53 = .ok (.getfield 10, 3) := by decide +kernel
theorem dX5_file_56 : decode cX5_file 56 = .ok (.iload_n 1, 1) := by decide +kernel
theorem dX5_file_57 : decode cX5_file 57 = .ok (.invokevirtual 142, 3) := by decide +kernel
theorem dX5_file_60 : decode cX5_file 60 = .ok (.ireturn, 1) := by decide +kernel
theorem dX5_file_61 : decode cX5_file 61 = .ok (.aload_n 0, 1) := by decide +kernel
theorem dX5_file_62 : decode cX5_file 62 = .ok (.getfield 10, 3) := by decide +kernel
theorem dX5_file_65 : decode cX5_file 65 = .ok (.iload_n 1, 1) := by decide +kernel
theorem dX5_file_66 : decode cX5_file 66 = .ok (.invokevirtual 145, 3) := by decide +kernel
theorem dX5_file_69 : decode cX5_file 69 = .ok (.ireturn, 1) := by decide +kernel
theorem dX5_file_70 : decode cX5_file 70 = .ok (.aload_n 0, 1) := by decide +kernel
theorem dX5_file_71 : decode cX5_file 71 = .ok (.getfield 10, 3) := by decide +kernel
theorem dX5_file_74 : decode cX5_file 74 = .ok (.iload_n 1, 1) := by decide +kernel
theorem dX5_file_75 : decode cX5_file 75 = .ok (.invokevirtual 148, 3) := by decide +kernel
theorem dX5_file_78 : decode cX5_file 78 = .ok (.ireturn, 1) := by decide +kernel
theorem dX5_file_79 : decode cX5_file 79 = .ok (.aload_n 0, 1) := by decide +kernel
theorem dX5_file_80 : decode cX5_file 80 = .ok (.getfield 10, 3) := by decide +kernel
theorem dX5_file_83 : decode cX5_file 83 = .ok (.iload_n 1, 1) := by decide +kernel
theorem dX5_file_84 : decode cX5_file 84 = .ok (.invokevirtual 151, 3) := by decide +kernel
theorem dX5_file_87 : decode cX5_file 87 = .ok (.ifCond .eq 7, 3) := by decide +kernel
theorem dX5_file_90 : decode cX5_file 90 = .ok (.iconst 1, 1) := by decide +kernel
theorem dX5_file_91 : decode cX5_file 91 = .ok (.goto 4, 3) := by decide +kernel
theorem dX5_file_94 : decode cX5_file 94 = .ok (.iconst 0, 1) := by decide +kernel
theorem dX5_file_95 : decode cX5_file 95 = .ok (.ireturn, 1) := by decide +kernel
theorem dX5_file_96 : decode cX5_file 96 = .ok (.aload_n 0, 1) := by decide +kernel
theorem dX5_file_97 : decode cX5_file 97 = .ok (.getfield 10, 3) := by decide +kernel
theorem dX5_file_100 : decode cX5_file 100 = .ok (.iload_n 1, 1) := by decide +kernel
theorem dX5_file_101 : decode cX5_file 101 = .ok (.invokevirtual 154, 3) := by decide +kernel
theorem dX5_file_104 : decode cX5_file 104 = .ok (.ireturn, 1) := by decide +kernel
theorem dX5_file_105 : decode cX5_file 105 = .ok (.aload_n 0, 1) := by decide +kernel
theorem dX5_file_106 : decode cX5_file 106 = .ok (.getfield 10, 3) := by decide +kernel
theorem dX5_file_109 : decode cX5_file 109 = .ok (.iload_n 1, 1) := by decide +kernel
theorem dX5_file_110 : decode cX5_file 110 = .ok (.invokevirtual 157, 3) := by decide +kernel
theorem dX5_file_113 : decode cX5_file 113 = .ok (.ireturn, 1) := by decide +kernel
theorem dX5_file_114 : decode cX5_file 114 = .ok (.bipush (-2), 2) := by decide +kernel
theorem dX5_file_116 : decode cX5_file 116 = .ok (.ireturn, 1) := by decide +kernel
set_option maxRecDepth 20000 in
theorem ggX5_extent_X0_isFile : GoodIn wsX5_extent wsX0_isFile := goodIn_r _ [6, 7, 8, 9, 10, 11, 12, 13, 45, 46, 47, 48, 49, 50, 51, 52, 53, 54, 55] (by decide +kernel) (by decide +kernel)
set_option maxRecDepth 20000 in
theorem gX5_extent_X0_isFile : GoodIn wsX5_extent (wsV RX5 139 RX0 yX0_isFile wsX0_isFile) := goodIn_app (goodIn_of _ (by decide +kernel)) ggX5_extent_X0_isFile
set_option maxRecDepth 20000 in
theorem ggX5_extent_X0_placeOfExtent : GoodIn wsX5_extent wsX0_placeOfExtent := goodIn_r _ [17, 18, 19, 20, 21, 11, 22, 13, 23, 24, 25, 5, 26, 27, 28, 8, 9, 10, 12, 29, 30, 31, 32, 45, 46, 47, 48, 49, 50, 51, 52, 53, 54, 55] (by decide +kernel) (by decide +kernel)
set_option maxRecDepth 20000 in
theorem gX5_extent_X0_placeOfExtent : GoodIn wsX5_extent (wsV RX5 160 RX0 yX0_placeOfExtent wsX0_placeOfExtent) := goodIn_app (goodIn_of _ (by decide +kernel)) ggX5_extent_X0_placeOfExtent
set_option maxRecDepth 20000 in
theorem ggX5_extent_X0_blockAt : GoodIn wsX5_extent wsX0_blockAt := goodIn_r _ [26, 27, 28, 8, 9, 10, 11, 12, 13, 45, 46, 47, 48, 49, 50, 51, 52, 53, 54, 55] (by decide +kernel) (by decide +kernel)
set_option maxRecDepth 20000 in
theorem gX5_extent_X0_blockAt : GoodIn wsX5_extent (wsV RX5 163 RX0 yX0_blockAt wsX0_blockAt) := goodIn_app (goodIn_of _ (by decide +kernel)) ggX5_extent_X0_blockAt
set_option maxRecDepth 20000 in
theorem ggX5_extent_X0_extentFrom : GoodIn wsX5_extent wsX0_extentFrom := goodIn_r _ [37, 18, 19, 20, 21, 11, 22, 13, 23, 24, 25, 5, 26, 27, 28, 8, 9, 10, 12, 29, 30, 31, 32, 45, 46, 47, 48, 49, 50, 51, 52, 53, 54, 55] (by decide +kernel) (by decide +kernel)
set_option maxRecDepth 20000 in
theorem gX5_extent_X0_extentFrom : GoodIn wsX5_extent (wsV RX5 166 RX0 yX0_extentFrom wsX0_extentFrom) := goodIn_app (goodIn_of _ (by decide +kernel)) ggX5_extent_X0_extentFrom
theorem dX5_extent_0 : decode cX5_extent 0 = .ok (.aload_n 0, 1) := by decide +kernel
theorem dX5_extent_1 : decode cX5_extent 1 = .ok (.getfield 10, 3) := by decide +kernel
theorem dX5_extent_4 : decode cX5_extent 4 = .ok (.iload_n 1, 1) := by decide +kernel
theorem dX5_extent_5 : decode cX5_extent 5 = .ok (.invokevirtual 139, 3) := by decide +kernel
theorem dX5_extent_8 : decode cX5_extent 8 = .ok (.ifCond .ne 5, 3) := by decide +kernel
theorem dX5_extent_11 : decode cX5_extent 11 = .ok (.iconst (-1), 1) := by decide +kernel
theorem dX5_extent_12 : decode cX5_extent 12 = .ok (.ireturn, 1) := by decide +kernel
theorem dX5_extent_13 : decode cX5_extent 13 = .ok (.iload_n 2, 1) := by decide +kernel
theorem dX5_extent_14 : decode cX5_extent 14 = .ok (.ifCond .lt 12, 3) := by decide +kernel
theorem dX5_extent_17 : decode cX5_extent 17 = .ok (.iload_n 3, 1) := by decide +kernel
theorem dX5_extent_18 : decode cX5_extent 18 = .ok (.ifCond .lt 8, 3) := by decide +kernel
theorem dX5_extent_21 : decode cX5_extent 21 = .ok (.iload_n 3, 1) := by decide +kernel
theorem dX5_extent_22 : decode cX5_extent 22 = .ok (.iconst 1, 1) := by decide +kernel
theorem dX5_extent_23 : decode cX5_extent 23 = .ok (.if_icmp .le 6, 3) := by decide +kernel
theorem dX5_extent_26 : decode cX5_extent 26 = .ok (.bipush (-2), 2) := by decide +kernel
theorem dX5_extent_28 : decode cX5_extent 28 = .ok (.ireturn, 1) := by decide +kernel
theorem dX5_extent_29 : decode cX5_extent 29 = .ok (.aload_n 0, 1) := by decide +kernel
theorem dX5_extent_30 : decode cX5_extent 30 = .ok (.getfield 10, 3) := by decide +kernel
theorem dX5_extent_33 : decode cX5_extent 33 = .ok (.iload_n 1, 1) := by decide +kernel
theorem dX5_extent_34 : decode cX5_extent 34 = .ok (.iload_n 2, 1) := by decide +kernel
theorem dX5_extent_35 : decode cX5_extent 35 = .ok (.invokevirtual 160, 3) := by decide +kernel
theorem dX5_extent_38 : decode cX5_extent 38 = .ok (.istore 4, 2) := by decide +kernel
theorem dX5_extent_40 : decode cX5_extent 40 = .ok (.iload 4, 2) := by decide +kernel
theorem dX5_extent_42 : decode cX5_extent 42 = .ok (.bipush (-5), 2) := by decide +kernel
theorem dX5_extent_44 : decode cX5_extent 44 = .ok (.if_icmp .ne 6, 3) := by decide +kernel
theorem dX5_extent_47 : decode cX5_extent 47 = .ok (.bipush (-5), 2) := by decide +kernel
theorem dX5_extent_49 : decode cX5_extent 49 = .ok (.ireturn, 1) := by decide +kernel
theorem dX5_extent_50 : decode cX5_extent 50 = .ok (.iload_n 3, 1) := by decide +kernel
theorem dX5_extent_51 : decode cX5_extent 51 = .ok (.ifCond .ne 16, 3) := by decide +kernel
theorem dX5_extent_54 : decode cX5_extent 54 = .ok (.aload_n 0, 1) := by decide +kernel
theorem dX5_extent_55 : decode cX5_extent 55 = .ok (.getfield 10, 3) := by decide +kernel
theorem dX5_extent_58 : decode cX5_extent 58 = .ok (.iload_n 1, 1) := by decide +kernel
theorem dX5_extent_59 : decode cX5_extent 59 = .ok (.iload 4, 2) := by decide +kernel
theorem dX5_extent_61 : decode cX5_extent 61 = .ok (.invokevirtual 163, 3) := by decide +kernel
theorem dX5_extent_64 : decode cX5_extent 64 = .ok (.goto 13, 3) := by decide +kernel
theorem dX5_extent_67 : decode cX5_extent 67 = .ok (.aload_n 0, 1) := by decide +kernel
theorem dX5_extent_68 : decode cX5_extent 68 = .ok (.getfield 10, 3) := by decide +kernel
theorem dX5_extent_71 : decode cX5_extent 71 = .ok (.iload_n 1, 1) := by decide +kernel
theorem dX5_extent_72 : decode cX5_extent 72 = .ok (.iload 4, 2) := by decide +kernel
theorem dX5_extent_74 : decode cX5_extent 74 = .ok (.invokevirtual 166, 3) := by decide +kernel
theorem dX5_extent_77 : decode cX5_extent 77 = .ok (.ireturn, 1) := by decide +kernel
set_option maxRecDepth 20000 in
theorem ggX5_run_X0_firstOfRun : GoodIn wsX5_run wsX0_firstOfRun := goodIn_r _ [6, 7, 8, 9, 5, 10, 11, 12, 13, 14, 15, 16, 17, 26, 27, 28, 29, 30, 31, 32, 33, 34, 35, 36] (by decide +kernel) (by decide +kernel)
set_option maxRecDepth 20000 in
theorem gX5_run_X0_firstOfRun : GoodIn wsX5_run (wsV RX5 169 RX0 yX0_firstOfRun wsX0_firstOfRun) := goodIn_app (goodIn_of _ (by decide +kernel)) ggX5_run_X0_firstOfRun
set_option maxRecDepth 20000 in
theorem ggX5_run_X0_runFrom : GoodIn wsX5_run wsX0_runFrom := goodIn_r _ [10, 11, 12, 13, 14, 15, 16, 17, 26, 27, 28, 29, 30, 31, 32, 33, 34, 35, 36] (by decide +kernel) (by decide +kernel)
set_option maxRecDepth 20000 in
theorem gX5_run_X0_runFrom : GoodIn wsX5_run (wsV RX5 172 RX0 yX0_runFrom wsX0_runFrom) := goodIn_app (goodIn_of _ (by decide +kernel)) ggX5_run_X0_runFrom
theorem dX5_run_0 : decode cX5_run 0 = .ok (.iload_n 1, 1) := by decide +kernel
theorem dX5_run_1 : decode cX5_run 1 = .ok (.ifCond .lt 12, 3) := by decide +kernel
theorem dX5_run_4 : decode cX5_run 4 = .ok (.iload_n 2, 1) := by decide +kernel
theorem dX5_run_5 : decode cX5_run 5 = .ok (.ifCond .lt 8, 3) := by decide +kernel
theorem dX5_run_8 : decode cX5_run 8 = .ok (.iload_n 2, 1) := by decide +kernel
theorem dX5_run_9 : decode cX5_run 9 = .ok (.iconst 1, 1) := by decide +kernel
theorem dX5_run_10 : decode cX5_run 10 = .ok (.if_icmp .le 6, 3) := by decide +kernel
theorem dX5_run_13 : decode cX5_run 13 = .ok (.bipush (-2), 2) := by decide +kernel
theorem dX5_run_15 : decode cX5_run 15 = .ok (.ireturn, 1) := by decide +kernel
theorem dX5_run_16 : decode cX5_run 16 = .ok (.aload_n 0, 1) := by decide +kernel
theorem dX5_run_17 : decode cX5_run 17 = .ok (.getfield 10, 3) := by decide +kernel
theorem dX5_run_20 : decode cX5_run 20 = .ok (.iload_n 1, 1) := by decide +kernel
theorem dX5_run_21 : decode cX5_run 21 = .ok (.invokevirtual 169, 3) := by decide +kernel
theorem dX5_run_24 : decode cX5_run 24 = .ok (.istore_n 3, 1) := by decide +kernel
theorem dX5_run_25 : decode cX5_run 25 = .ok (.iload_n 3, 1) := by decide +kernel
theorem dX5_run_26 : decode cX5_run 26 = .ok (.bipush (-5), 2) := by decide +kernel
theorem dX5_run_28 : decode cX5_run 28 = .ok (.if_icmp .ne 6, 3) := by decide +kernel
theorem dX5_run_31 : decode cX5_run 31 = .ok (.bipush (-5), 2) := by decide +kernel
theorem dX5_run_33 : decode cX5_run 33 = .ok (.ireturn, 1) := by decide +kernel
theorem dX5_run_34 : decode cX5_run 34 = .ok (.iload_n 2, 1) := by decide +kernel
theorem dX5_run_35 : decode cX5_run 35 = .ok (.ifCond .ne 7, 3) := by decide +kernel
theorem dX5_run_38 : decode cX5_run 38 = .ok (.iload_n 3, 1) := by decide +kernel
theorem dX5_run_39 : decode cX5_run 39 = .ok (.goto 11, 3) := by decide +kernel
theorem dX5_run_42 : decode cX5_run 42 = .ok (.aload_n 0, 1) := by decide +kernel
theorem dX5_run_43 : decode cX5_run 43 = .ok (.getfield 10, 3) := by decide +kernel
theorem dX5_run_46 : decode cX5_run 46 = .ok (.iload_n 3, 1) := by decide +kernel
theorem dX5_run_47 : decode cX5_run 47 = .ok (.invokevirtual 172, 3) := by decide +kernel
theorem dX5_run_50 : decode cX5_run 50 = .ok (.ireturn, 1) := by decide +kernel
set_option maxRecDepth 20000 in
theorem ggX5_read_X0_isFile : GoodIn wsX5_read wsX0_isFile := goodIn_r _ [10, 11, 12, 13, 14, 15, 16, 17, 45, 46, 47, 48, 49, 50, 51, 52, 53, 54, 55] (by decide +kernel) (by decide +kernel)
set_option maxRecDepth 20000 in
theorem gX5_read_X0_isFile : GoodIn wsX5_read (wsV RX5 139 RX0 yX0_isFile wsX0_isFile) := goodIn_app (goodIn_of _ (by decide +kernel)) ggX5_read_X0_isFile
set_option maxRecDepth 20000 in
theorem ggX5_read_X0_sizeOf : GoodIn wsX5_read wsX0_sizeOf := goodIn_r _ [21, 22, 23, 24, 25, 15, 26, 17, 45, 46, 47, 48, 49, 50, 51, 52, 53, 54, 55] (by decide +kernel) (by decide +kernel)
set_option maxRecDepth 20000 in
theorem gX5_read_X0_sizeOf : GoodIn wsX5_read (wsV RX5 142 RX0 yX0_sizeOf wsX0_sizeOf) := goodIn_app (goodIn_of _ (by decide +kernel)) ggX5_read_X0_sizeOf
set_option maxRecDepth 20000 in
theorem ggX5_read_X0_sumOfStamps : GoodIn wsX5_read wsX0_sumOfStamps := goodIn_r _ [30, 31, 32, 33, 34, 9, 35, 36, 37, 12, 13, 14, 15, 16, 17, 23, 24, 25, 26, 45, 46, 47, 48, 49, 50, 51, 52, 53, 54, 55] (by decide +kernel) (by decide +kernel)
set_option maxRecDepth 20000 in
theorem gX5_read_X0_sumOfStamps : GoodIn wsX5_read (wsV RX5 180 RX0 yX0_sumOfStamps wsX0_sumOfStamps) := goodIn_app (goodIn_of _ (by decide +kernel)) ggX5_read_X0_sumOfStamps
theorem dX5_read_0 : decode cX5_read 0 = .ok (.aload_n 0, 1) := by decide +kernel
theorem dX5_read_1 : decode cX5_read 1 = .ok (.getfield 10, 3) := by decide +kernel
theorem dX5_read_4 : decode cX5_read 4 = .ok (.iload_n 1, 1) := by decide +kernel
theorem dX5_read_5 : decode cX5_read 5 = .ok (.invokevirtual 139, 3) := by decide +kernel
theorem dX5_read_8 : decode cX5_read 8 = .ok (.ifCond .ne 5, 3) := by decide +kernel
theorem dX5_read_11 : decode cX5_read 11 = .ok (.iconst (-1), 1) := by decide +kernel
theorem dX5_read_12 : decode cX5_read 12 = .ok (.ireturn, 1) := by decide +kernel
theorem dX5_read_13 : decode cX5_read 13 = .ok (.iload_n 2, 1) := by decide +kernel
theorem dX5_read_14 : decode cX5_read 14 = .ok (.ifCond .lt 31, 3) := by decide +kernel
theorem dX5_read_17 : decode cX5_read 17 = .ok (.iload_n 2, 1) := by decide +kernel
theorem dX5_read_18 : decode cX5_read 18 = .ok (.bipush 64, 2) := by decide +kernel
theorem dX5_read_20 : decode cX5_read 20 = .ok (.if_icmp .ge 25, 3) := by decide +kernel
theorem dX5_read_23 : decode cX5_read 23 = .ok (.iload_n 3, 1) := by decide +kernel
theorem dX5_read_24 : decode cX5_read 24 = .ok (.iconst 1, 1) := by decide +kernel
theorem dX5_read_25 : decode cX5_read 25 = .ok (.if_icmp .lt 20, 3) := by decide +kernel
theorem dX5_read_28 : decode cX5_read 28 = .ok (.iload_n 3, 1) := by decide +kernel
theorem dX5_read_29 : decode cX5_read 29 = .ok (.bipush 64, 2) := by decide +kernel
theorem dX5_read_31 : decode cX5_read 31 = .ok (.if_icmp .gt 14, 3) := by decide +kernel
theorem dX5_read_34 : decode cX5_read 34 = .ok (.iload 4, 2) := by decide +kernel
theorem dX5_read_36 : decode cX5_read 36 = .ok (.ifCond .lt 9, 3) := by decide +kernel
theorem dX5_read_39 : decode cX5_read 39 = .ok (.iload 4, 2) := by decide +kernel
theorem dX5_read_41 : decode cX5_read 41 = .ok (.iconst 1, 1) := by decide +kernel
theorem dX5_read_42 : decode cX5_read 42 = .ok (.if_icmp .le 6, 3) := by decide +kernel
theorem dX5_read_45 : decode cX5_read 45 = .ok (.bipush (-2), 2) := by decide +kernel
theorem dX5_read_47 : decode cX5_read 47 = .ok (.ireturn, 1) := by decide +kernel
theorem dX5_read_48 : decode cX5_read 48 = .ok (.iload_n 2, 1) := by decide +kernel
theorem dX5_read_49 : decode cX5_read 49 = .ok (.aload_n 0, 1) := by decide +kernel
theorem dX5_read_50 : decode cX5_read 50 = .ok (.getfield 10, 3) := by decide +kernel
theorem dX5_read_53 : decode cX5_read 53 = .ok (.iload_n 1, 1) := by decide +kernel
theorem dX5_read_54 : decode cX5_read 54 = .ok (.invokevirtual 142, 3) := by decide +kernel
theorem dX5_read_57 : decode cX5_read 57 = .ok (.if_icmp .lt 6, 3) := by decide +kernel
theorem dX5_read_60 : decode cX5_read 60 = .ok (.bipush (-5), 2) := by decide +kernel
theorem dX5_read_62 : decode cX5_read 62 = .ok (.ireturn, 1) := by decide +kernel
theorem dX5_read_63 : decode cX5_read 63 = .ok (.iload_n 2, 1) := by decide +kernel
theorem dX5_read_64 : decode cX5_read 64 = .ok (.iload_n 3, 1) := by decide +kernel
theorem dX5_read_65 : decode cX5_read 65 = .ok (.iadd, 1) := by decide +kernel
theorem dX5_read_66 : decode cX5_read 66 = .ok (.aload_n 0, 1) := by decide +kernel
theorem dX5_read_67 : decode cX5_read 67 = .ok (.getfield 10, 3) := by decide +kernel
theorem dX5_read_70 : decode cX5_read 70 = .ok (.iload_n 1, 1) := by decide +kernel
theorem dX5_read_71 : decode cX5_read 71 = .ok (.invokevirtual 142, 3) := by decide +kernel
theorem dX5_read_74 : decode cX5_read 74 = .ok (.invokestatic 175, 3) := by decide +kernel
theorem dX5_read_77 : decode cX5_read 77 = .ok (.istore 5, 2) := by decide +kernel
theorem dX5_read_79 : decode cX5_read 79 = .ok (.iload 4, 2) := by decide +kernel
theorem dX5_read_81 : decode cX5_read 81 = .ok (.ifCond .ne 17, 3) := by decide +kernel
theorem dX5_read_84 : decode cX5_read 84 = .ok (.aload_n 0, 1) := by decide +kernel
theorem dX5_read_85 : decode cX5_read 85 = .ok (.getfield 10, 3) := by decide +kernel
theorem dX5_read_88 : decode cX5_read 88 = .ok (.iload_n 1, 1) := by decide +kernel
theorem dX5_read_89 : decode cX5_read 89 = .ok (.iload_n 2, 1) := by decide +kernel
theorem dX5_read_90 : decode cX5_read 90 = .ok (.iload 5, 2) := by decide +kernel
theorem dX5_read_92 : decode cX5_read 92 = .ok (.invokevirtual 180, 3) := by decide +kernel
theorem dX5_read_95 : decode cX5_read 95 = .ok (.goto 7, 3) := by decide +kernel
theorem dX5_read_98 : decode cX5_read 98 = .ok (.iload 5, 2) := by decide +kernel
theorem dX5_read_100 : decode cX5_read 100 = .ok (.iload_n 2, 1) := by decide +kernel
theorem dX5_read_101 : decode cX5_read 101 = .ok (.isub, 1) := by decide +kernel
theorem dX5_read_102 : decode cX5_read 102 = .ok (.ireturn, 1) := by decide +kernel
set_option maxRecDepth 20000 in
theorem ggX5_count_X0_filesThatAre : GoodIn wsX5_count wsX0_filesThatAre := goodIn_r _ [8, 9, 10, 11, 12, 13, 14, 15, 87, 88, 89, 90, 91, 92, 93, 94, 95, 96, 97] (by decide +kernel) (by decide +kernel)
set_option maxRecDepth 20000 in
theorem gX5_count_X0_filesThatAre : GoodIn wsX5_count (wsV RX5 183 RX0 yX0_filesThatAre wsX0_filesThatAre) := goodIn_app (goodIn_of _ (by decide +kernel)) ggX5_count_X0_filesThatAre
set_option maxRecDepth 20000 in
theorem ggX5_count_X0_freeBlocks : GoodIn wsX5_count wsX0_freeBlocks := goodIn_r _ [19, 20, 10, 11, 12, 13, 14, 15, 87, 88, 89, 90, 91, 92, 93, 94, 95, 96, 97] (by decide +kernel) (by decide +kernel)
set_option maxRecDepth 20000 in
theorem gX5_count_X0_freeBlocks : GoodIn wsX5_count (wsV RX5 124 RX0 yX0_freeBlocks wsX0_freeBlocks) := goodIn_app (goodIn_of _ (by decide +kernel)) ggX5_count_X0_freeBlocks
set_option maxRecDepth 20000 in
theorem ggX5_count_X0_dataBlocks : GoodIn wsX5_count wsX0_dataBlocks := goodIn_r _ [24, 25, 26, 27, 28, 13, 29, 15, 87, 88, 89, 90, 91, 92, 93, 94, 95, 96, 97] (by decide +kernel) (by decide +kernel)
set_option maxRecDepth 20000 in
theorem gX5_count_X0_dataBlocks : GoodIn wsX5_count (wsV RX5 186 RX0 yX0_dataBlocks wsX0_dataBlocks) := goodIn_app (goodIn_of _ (by decide +kernel)) ggX5_count_X0_dataBlocks
set_option maxRecDepth 20000 in
theorem ggX5_count_X0_lentToFilesThatAre : GoodIn wsX5_count wsX0_lentToFilesThatAre := goodIn_r _ [33, 9, 10, 11, 12, 13, 14, 15, 34, 35, 36, 7, 37, 38, 25, 26, 27, 28, 29, 87, 88, 89, 90, 91, 92, 93, 94, 95, 96, 97] (by decide +kernel) (by decide +kernel)
set_option maxRecDepth 20000 in
theorem gX5_count_X0_lentToFilesThatAre : GoodIn wsX5_count (wsV RX5 189 RX0 yX0_lentToFilesThatAre wsX0_lentToFilesThatAre) := goodIn_app (goodIn_of _ (by decide +kernel)) ggX5_count_X0_lentToFilesThatAre
set_option maxRecDepth 20000 in
theorem ggX5_count_X0_freeRuns : GoodIn wsX5_count wsX0_freeRuns := goodIn_r _ [42, 43, 44, 45, 7, 46, 20, 10, 11, 12, 13, 14, 15, 87, 88, 89, 90, 91, 92, 93, 94, 95, 96, 97] (by decide +kernel) (by decide +kernel)
set_option maxRecDepth 20000 in
theorem gX5_count_X0_freeRuns : GoodIn wsX5_count (wsV RX5 192 RX0 yX0_freeRuns wsX0_freeRuns) := goodIn_app (goodIn_of _ (by decide +kernel)) ggX5_count_X0_freeRuns
set_option maxRecDepth 20000 in
theorem ggX5_count_X0_longestRun : GoodIn wsX5_count wsX0_longestRun := goodIn_r _ [50, 51, 52, 53, 54, 43, 44, 45, 7, 46, 20, 10, 11, 12, 13, 14, 15, 87, 88, 89, 90, 91, 92, 93, 94, 95, 96, 97] (by decide +kernel) (by decide +kernel)
set_option maxRecDepth 20000 in
theorem gX5_count_X0_longestRun : GoodIn wsX5_count (wsV RX5 195 RX0 yX0_longestRun wsX0_longestRun) := goodIn_app (goodIn_of _ (by decide +kernel)) ggX5_count_X0_longestRun
set_option maxRecDepth 20000 in
theorem ggX5_count_X0_allExtents : GoodIn wsX5_count wsX0_allExtents := goodIn_r _ [58, 59, 60, 61, 7, 62, 20, 10, 11, 12, 13, 14, 15, 63, 64, 65, 66, 67, 26, 27, 28, 29, 87, 88, 89, 90, 91, 92, 93, 94, 95, 96, 97] (by decide +kernel) (by decide +kernel)
set_option maxRecDepth 20000 in
theorem gX5_count_X0_allExtents : GoodIn wsX5_count (wsV RX5 198 RX0 yX0_allExtents wsX0_allExtents) := goodIn_app (goodIn_of _ (by decide +kernel)) ggX5_count_X0_allExtents
set_option maxRecDepth 20000 in
theorem ggX5_count_X1_size : GoodIn wsX5_count wsX1_size := goodIn_r _ [72, 73, 98, 99, 100] (by decide +kernel) (by decide +kernel)
set_option maxRecDepth 20000 in
theorem gX5_count_X1_size : GoodIn wsX5_count (wsV RX5 121 RX1 yX1_size wsX1_size) := goodIn_app (goodIn_of _ (by decide +kernel)) ggX5_count_X1_size
set_option maxRecDepth 20000 in
theorem ggX5_count_X4_length : GoodIn wsX5_count wsX4_length := goodIn_r _ [78, 79, 101, 102] (by decide +kernel) (by decide +kernel)
set_option maxRecDepth 20000 in
theorem gX5_count_X4_length : GoodIn wsX5_count (wsV RX5 92 RX4 yX4_length wsX4_length) := goodIn_app (goodIn_of _ (by decide +kernel)) ggX5_count_X4_length
theorem dX5_count_0 : decode cX5_count 0 = .ok (.iload_n 1, 1) := by decide +kernel
theorem dX5_count_1 : decode cX5_count 1 = .ok (.tableswitch 169 0 10 #[59, 77, 86, 94, 102, 120, 129, 137, 145, 153, 161], 59) := by decide +kernel
theorem dX5_count_60 : decode cX5_count 60 = .ok (.aload_n 0, 1) := by decide +kernel
theorem dX5_count_61 : decode cX5_count 61 = .ok (.getfield 10, 3) := by decide +kernel
theorem dX5_count_64 : decode cX5_count 64 = .ok (.iconst 2, 1) := by decide +kernel
theorem dX5_count_65 : decode cX5_count 65 = .ok (.invokevirtual 183, 3) := by decide +kernel
theorem dX5_count_68 : decode cX5_count 68 = .ok (.aload_n 0, 1) := by decide +kernel
theorem dX5_count_69 : decode cX5_count 69 = .ok (.getfield 10, 3) := by decide +kernel
theorem dX5_count_72 : decode cX5_count 72 = .ok (.iconst 1, 1) := by decide +kernel
theorem dX5_count_73 : decode cX5_count 73 = .ok (.invokevirtual 183, 3) := by decide +kernel
theorem dX5_count_76 : decode cX5_count 76 = .ok (.iadd, 1) := by decide +kernel
theorem dX5_count_77 : decode cX5_count 77 = .ok (.ireturn, 1) := by decide +kernel
theorem dX5_count_78 : decode cX5_count 78 = .ok (.aload_n 0, 1) := by decide +kernel
theorem dX5_count_79 : decode cX5_count 79 = .ok (.getfield 10, 3) := by decide +kernel
theorem dX5_count_82 : decode cX5_count 82 = .ok (.iconst 2, 1) := by decide +kernel
theorem dX5_count_83 : decode cX5_count 83 = .ok (.invokevirtual 183, 3) := by decide +kernel
theorem dX5_count_86 : decode cX5_count 86 = .ok (.ireturn, 1) := by decide +kernel
theorem dX5_count_87 : decode cX5_count 87 = .ok (.aload_n 0, 1) := by decide +kernel
theorem dX5_count_88 : decode cX5_count 88 = .ok (.getfield 10, 3) := by decide +kernel
theorem dX5_count_91 : decode cX5_count 91 = .ok (.invokevirtual 124, 3) := by decide +kernel
theorem dX5_count_94 : decode cX5_count 94 = .ok (.ireturn, 1) := by decide +kernel
theorem dX5_count_95 : decode cX5_count 95 = .ok (.aload_n 0, 1) := by decide +kernel
theorem dX5_count_96 : decode cX5_count 96 = .ok (.getfield 10, 3) := by decide +kernel
theorem dX5_count_99 : decode cX5_count 99 = .ok (.invokevirtual 186, 3) := by decide +kernel
theorem dX5_count_102 : decode cX5_count 102 = .ok (.ireturn, 1) := by decide +kernel
theorem dX5_count_103 : decode cX5_count 103 = .ok (.aload_n 0, 1) := by decide +kernel
theorem dX5_count_104 : decode cX5_count 104 = .ok (.getfield 10, 3) := by decide +kernel
theorem dX5_count_107 : decode cX5_count 107 = .ok (.iconst 2, 1) := by decide +kernel
theorem dX5_count_108 : decode cX5_count 108 = .ok (.invokevirtual 189, 3) := by decide +kernel
theorem dX5_count_111 : decode cX5_count 111 = .ok (.aload_n 0, 1) := by decide +kernel
theorem dX5_count_112 : decode cX5_count 112 = .ok (.getfield 10, 3) := by decide +kernel
theorem dX5_count_115 : decode cX5_count 115 = .ok (.iconst 1, 1) := by decide +kernel
theorem dX5_count_116 : decode cX5_count 116 = .ok (.invokevirtual 189, 3) := by decide +kernel
theorem dX5_count_119 : decode cX5_count 119 = .ok (.iadd, 1) := by decide +kernel
theorem dX5_count_120 : decode cX5_count 120 = .ok (.ireturn, 1) := by decide +kernel
theorem dX5_count_121 : decode cX5_count 121 = .ok (.aload_n 0, 1) := by decide +kernel
theorem dX5_count_122 : decode cX5_count 122 = .ok (.getfield 10, 3) := by decide +kernel
theorem dX5_count_125 : decode cX5_count 125 = .ok (.iconst 1, 1) := by decide +kernel
theorem dX5_count_126 : decode cX5_count 126 = .ok (.invokevirtual 189, 3) := by decide +kernel
theorem dX5_count_129 : decode cX5_count 129 = .ok (.ireturn, 1) := by decide +kernel
theorem dX5_count_130 : decode cX5_count 130 = .ok (.aload_n 0, 1) := by decide +kernel
theorem dX5_count_131 : decode cX5_count 131 = .ok (.getfield 10, 3) := by decide +kernel
theorem dX5_count_134 : decode cX5_count 134 = .ok (.invokevirtual 192, 3) := by decide +kernel
theorem dX5_count_137 : decode cX5_count 137 = .ok (.ireturn, 1) := by decide +kernel
theorem dX5_count_138 : decode cX5_count 138 = .ok (.aload_n 0, 1) := by decide +kernel
theorem dX5_count_139 : decode cX5_count 139 = .ok (.getfield 10, 3) := by decide +kernel
theorem dX5_count_142 : decode cX5_count 142 = .ok (.invokevirtual 195, 3) := by decide +kernel
theorem dX5_count_145 : decode cX5_count 145 = .ok (.ireturn, 1) := by decide +kernel
theorem dX5_count_146 : decode cX5_count 146 = .ok (.aload_n 0, 1) := by decide +kernel
theorem dX5_count_147 : decode cX5_count 147 = .ok (.getfield 10, 3) := by decide +kernel
theorem dX5_count_150 : decode cX5_count 150 = .ok (.invokevirtual 198, 3) := by decide +kernel
theorem dX5_count_153 : decode cX5_count 153 = .ok (.ireturn, 1) := by decide +kernel
theorem dX5_count_154 : decode cX5_count 154 = .ok (.aload_n 0, 1) := by decide +kernel
theorem dX5_count_155 : decode cX5_count 155 = .ok (.getfield 29, 3) := by decide +kernel
theorem dX5_count_158 : decode cX5_count 158 = .ok (.invokevirtual 121, 3) := by decide +kernel
theorem dX5_count_161 : decode cX5_count 161 = .ok (.ireturn, 1) := by decide +kernel
theorem dX5_count_162 : decode cX5_count 162 = .ok (.aload_n 0, 1) := by decide +kernel
theorem dX5_count_163 : decode cX5_count 163 = .ok (.getfield 36, 3) := by decide +kernel
theorem dX5_count_166 : decode cX5_count 166 = .ok (.invokevirtual 92, 3) := by decide +kernel
theorem dX5_count_169 : decode cX5_count 169 = .ok (.ireturn, 1) := by decide +kernel
theorem dX5_count_170 : decode cX5_count 170 = .ok (.bipush (-2), 2) := by decide +kernel
theorem dX5_count_172 : decode cX5_count 172 = .ok (.ireturn, 1) := by decide +kernel
set_option maxRecDepth 20000 in
theorem ggX5_total_X0_totalOf : GoodIn wsX5_total wsX0_totalOf := goodIn_r _ [6, 7, 8, 9, 10, 11, 12, 13, 21, 22, 23, 24, 25, 26, 27, 28, 29, 30, 31] (by decide +kernel) (by decide +kernel)
set_option maxRecDepth 20000 in
theorem gX5_total_X0_totalOf : GoodIn wsX5_total (wsV RX5 201 RX0 yX0_totalOf wsX0_totalOf) := goodIn_app (goodIn_of _ (by decide +kernel)) ggX5_total_X0_totalOf
theorem dX5_total_0 : decode cX5_total 0 = .ok (.iload_n 1, 1) := by decide +kernel
theorem dX5_total_1 : decode cX5_total 1 = .ok (.ifCond .lt 19, 3) := by decide +kernel
theorem dX5_total_4 : decode cX5_total 4 = .ok (.iload_n 1, 1) := by decide +kernel
theorem dX5_total_5 : decode cX5_total 5 = .ok (.iconst 4, 1) := by decide +kernel
theorem dX5_total_6 : decode cX5_total 6 = .ok (.if_icmp .ge 14, 3) := by decide +kernel
theorem dX5_total_9 : decode cX5_total 9 = .ok (.aload_n 0, 1) := by decide +kernel
theorem dX5_total_10 : decode cX5_total 10 = .ok (.getfield 10, 3) := by decide +kernel
theorem dX5_total_13 : decode cX5_total 13 = .ok (.iload_n 1, 1) := by decide +kernel
theorem dX5_total_14 : decode cX5_total 14 = .ok (.invokevirtual 201, 3) := by decide +kernel
theorem dX5_total_17 : decode cX5_total 17 = .ok (.goto 5, 3) := by decide +kernel
theorem dX5_total_20 : decode cX5_total 20 = .ok (.bipush (-2), 2) := by decide +kernel
theorem dX5_total_22 : decode cX5_total 22 = .ok (.ireturn, 1) := by decide +kernel
set_option maxRecDepth 20000 in
theorem ggX5_ifAppended_X0_isFile : GoodIn wsX5_ifAppended wsX0_isFile := goodIn_r _ [7, 8, 9, 10, 11, 12, 13, 14, 139, 140, 141, 142, 143, 144, 145, 146, 147, 148, 149] (by decide +kernel) (by decide +kernel)
set_option maxRecDepth 20000 in
theorem gX5_ifAppended_X0_isFile : GoodIn wsX5_ifAppended (wsV RX5 139 RX0 yX0_isFile wsX0_isFile) := goodIn_app (goodIn_of _ (by decide +kernel)) ggX5_ifAppended_X0_isFile
set_option maxRecDepth 20000 in
theorem ggX5_ifAppended_X0_copyFrom : GoodIn wsX5_ifAppended wsX0_copyFrom := goodIn_r _ [18, 19, 20, 21, 8, 22, 23, 24, 25, 26, 27, 28, 29, 30, 12, 31, 14, 32, 33, 34, 35, 139, 140, 141, 142, 143, 144, 145, 146, 147, 148, 149] (by decide +kernel) (by decide +kernel)
set_option maxRecDepth 20000 in
theorem gX5_ifAppended_X0_copyFrom : GoodIn wsX5_ifAppended (wsV RX5 47 RX0 yX0_copyFrom wsX0_copyFrom) := goodIn_app (goodIn_of _ (by decide +kernel)) ggX5_ifAppended_X0_copyFrom
set_option maxRecDepth 20000 in
theorem ggX5_ifAppended_X0_appendTo : GoodIn wsX5_ifAppended wsX0_appendTo := goodIn_r _ [39, 40, 4, 5, 6, 7, 8, 9, 10, 11, 12, 13, 14, 41, 42, 43, 44, 45, 46, 47, 48, 49, 50, 51, 52, 23, 53, 33, 34, 35, 54, 55, 56, 57, 22, 58, 59, 60, 61, 27, 62, 63, 64, 65, 20, 66, 67, 68, 69, 70, 71, 72, 73, 25, 74, 75, 76, 77, 21, 78, 79, 80, 81, 82, 83, 84, 85, 86, 87, 88, 89, 26, 90, 91, 92, 93, 94, 95, 96, 97, 98, 99, 100, 101, 102, 103, 104, 105, 106, 107, 108, 109, 110, 111, 112, 113, 114, 115, 116, 117, 19, 118, 119, 120, 121, 122, 123, 124, 125, 126, 127, 128, 129, 139, 140, 141, 142, 143, 144, 145, 146, 147, 148, 149] (by decide +kernel) (by decide +kernel)
set_option maxRecDepth 20000 in
theorem gX5_ifAppended_X0_appendTo : GoodIn wsX5_ifAppended (wsV RX5 71 RX0 yX0_appendTo wsX0_appendTo) := goodIn_app (goodIn_of _ (by decide +kernel)) ggX5_ifAppended_X0_appendTo
set_option maxRecDepth 20000 in
theorem ggX5_ifAppended_X0_lentOf : GoodIn wsX5_ifAppended wsX0_lentOf := goodIn_r _ [57, 22, 23, 53, 33, 34, 12, 35, 14, 139, 140, 141, 142, 143, 144, 145, 146, 147, 148, 149] (by decide +kernel) (by decide +kernel)
set_option maxRecDepth 20000 in
theorem gX5_ifAppended_X0_lentOf : GoodIn wsX5_ifAppended (wsV RX5 145 RX0 yX0_lentOf wsX0_lentOf) := goodIn_app (goodIn_of _ (by decide +kernel)) ggX5_ifAppended_X0_lentOf
set_option maxRecDepth 20000 in
theorem ggX5_ifAppended_X0_freeBlocks : GoodIn wsX5_ifAppended wsX0_freeBlocks := goodIn_r _ [65, 20, 9, 10, 11, 12, 13, 14, 139, 140, 141, 142, 143, 144, 145, 146, 147, 148, 149] (by decide +kernel) (by decide +kernel)
set_option maxRecDepth 20000 in
theorem gX5_ifAppended_X0_freeBlocks : GoodIn wsX5_ifAppended (wsV RX5 124 RX0 yX0_freeBlocks wsX0_freeBlocks) := goodIn_app (goodIn_of _ (by decide +kernel)) ggX5_ifAppended_X0_freeBlocks
theorem dX5_ifAppended_0 : decode cX5_ifAppended 0 = .ok (.aload_n 0, 1) := by decide +kernel
theorem dX5_ifAppended_1 : decode cX5_ifAppended 1 = .ok (.getfield 10, 3) := by decide +kernel
theorem dX5_ifAppended_4 : decode cX5_ifAppended 4 = .ok (.iload_n 1, 1) := by decide +kernel
theorem dX5_ifAppended_5 : decode cX5_ifAppended 5 = .ok (.invokevirtual 139, 3) := by decide +kernel
theorem dX5_ifAppended_8 : decode cX5_ifAppended 8 = .ok (.ifCond .ne 5, 3) := by decide +kernel
theorem dX5_ifAppended_11 : decode cX5_ifAppended 11 = .ok (.iconst (-1), 1) := by decide +kernel
theorem dX5_ifAppended_12 : decode cX5_ifAppended 12 = .ok (.ireturn, 1) := by decide +kernel
theorem dX5_ifAppended_13 : decode cX5_ifAppended 13 = .ok (.iload_n 3, 1) := by decide +kernel
theorem dX5_ifAppended_14 : decode cX5_ifAppended 14 = .ok (.ifCond .lt 8, 3) := by decide +kernel
theorem dX5_ifAppended_17 : decode cX5_ifAppended 17 = .ok (.iload_n 3, 1) := by decide +kernel
theorem dX5_ifAppended_18 : decode cX5_ifAppended 18 = .ok (.iconst 2, 1) := by decide +kernel
theorem dX5_ifAppended_19 : decode cX5_ifAppended 19 = .ok (.if_icmp .le 6, 3) := by decide +kernel
theorem dX5_ifAppended_22 : decode cX5_ifAppended 22 = .ok (.bipush (-2), 2) := by decide +kernel
theorem dX5_ifAppended_24 : decode cX5_ifAppended 24 = .ok (.ireturn, 1) := by decide +kernel
theorem dX5_ifAppended_25 : decode cX5_ifAppended 25 = .ok (.aload_n 0, 1) := by decide +kernel
theorem dX5_ifAppended_26 : decode cX5_ifAppended 26 = .ok (.getfield 16, 3) := by decide +kernel
theorem dX5_ifAppended_29 : decode cX5_ifAppended 29 = .ok (.aload_n 0, 1) := by decide +kernel
theorem dX5_ifAppended_30 : decode cX5_ifAppended 30 = .ok (.getfield 10, 3) := by decide +kernel
theorem dX5_ifAppended_33 : decode cX5_ifAppended 33 = .ok (.invokevirtual 47, 3) := by decide +kernel
theorem dX5_ifAppended_36 : decode cX5_ifAppended 36 = .ok (.aload_n 0, 1) := by decide +kernel
theorem dX5_ifAppended_37 : decode cX5_ifAppended 37 = .ok (.getfield 16, 3) := by decide +kernel
theorem dX5_ifAppended_40 : decode cX5_ifAppended 40 = .ok (.iload_n 1, 1) := by decide +kernel
theorem dX5_ifAppended_41 : decode cX5_ifAppended 41 = .ok (.iload_n 2, 1) := by decide +kernel
theorem dX5_ifAppended_42 : decode cX5_ifAppended 42 = .ok (.iconst 0, 1) := by decide +kernel
theorem dX5_ifAppended_43 : decode cX5_ifAppended 43 = .ok (.invokevirtual 71, 3) := by decide +kernel
theorem dX5_ifAppended_46 : decode cX5_ifAppended 46 = .ok (.istore 4, 2) := by decide +kernel
theorem dX5_ifAppended_48 : decode cX5_ifAppended 48 = .ok (.iload 4, 2) := by decide +kernel
theorem dX5_ifAppended_50 : decode cX5_ifAppended 50 = .ok (.ifCond .lt 7, 3) := by decide +kernel
theorem dX5_ifAppended_53 : decode cX5_ifAppended 53 = .ok (.iload_n 3, 1) := by decide +kernel
theorem dX5_ifAppended_54 : decode cX5_ifAppended 54 = .ok (.ifCond .ne 6, 3) := by decide +kernel
theorem dX5_ifAppended_57 : decode cX5_ifAppended 57 = .ok (.iload 4, 2) := by decide +kernel
theorem dX5_ifAppended_59 : decode cX5_ifAppended 59 = .ok (.ireturn, 1) := by decide +kernel
theorem dX5_ifAppended_60 : decode cX5_ifAppended 60 = .ok (.iload_n 3, 1) := by decide +kernel
theorem dX5_ifAppended_61 : decode cX5_ifAppended 61 = .ok (.iconst 1, 1) := by decide +kernel
theorem dX5_ifAppended_62 : decode cX5_ifAppended 62 = .ok (.if_icmp .ne 14, 3) := by decide +kernel
theorem dX5_ifAppended_65 : decode cX5_ifAppended 65 = .ok (.aload_n 0, 1) := by decide +kernel
theorem dX5_ifAppended_66 : decode cX5_ifAppended 66 = .ok (.getfield 16, 3) := by decide +kernel
theorem dX5_ifAppended_69 : decode cX5_ifAppended 69 = .ok (.iload_n 1, 1) := by decide +kernel
theorem dX5_ifAppended_70 : decode cX5_ifAppended 70 = .ok (.invokevirtual 145, 3) := by decide +kernel
theorem dX5_ifAppended_73 : decode cX5_ifAppended 73 = .ok (.goto 10, 3) := by decide +kernel
theorem dX5_ifAppended_76 : decode cX5_ifAppended 76 = .ok (.aload_n 0, 1) := by decide +kernel
theorem dX5_ifAppended_77 : decode cX5_ifAppended 77 = .ok (.getfield 16, 3) := by decide +kernel
theorem dX5_ifAppended_80 : decode cX5_ifAppended 80 = .ok (.invokevirtual 124, 3) := by decide +kernel
theorem dX5_ifAppended_83 : decode cX5_ifAppended 83 = .ok (.ireturn, 1) := by decide +kernel
set_option maxRecDepth 20000 in
theorem ggX5_room_X0_isFile : GoodIn wsX5_room wsX0_isFile := goodIn_r _ [6, 7, 8, 9, 10, 11, 12, 13, 38, 39, 40, 41, 42, 43, 44, 45, 46, 47, 48] (by decide +kernel) (by decide +kernel)
set_option maxRecDepth 20000 in
theorem gX5_room_X0_isFile : GoodIn wsX5_room (wsV RX5 139 RX0 yX0_isFile wsX0_isFile) := goodIn_app (goodIn_of _ (by decide +kernel)) ggX5_room_X0_isFile
set_option maxRecDepth 20000 in
theorem ggX5_room_X0_isOpen : GoodIn wsX5_room wsX0_isOpen := goodIn_r _ [17, 7, 8, 9, 10, 11, 12, 13, 38, 39, 40, 41, 42, 43, 44, 45, 46, 47, 48] (by decide +kernel) (by decide +kernel)
set_option maxRecDepth 20000 in
theorem gX5_room_X0_isOpen : GoodIn wsX5_room (wsV RX5 151 RX0 yX0_isOpen wsX0_isOpen) := goodIn_app (goodIn_of _ (by decide +kernel)) ggX5_room_X0_isOpen
set_option maxRecDepth 20000 in
theorem ggX5_room_X0_blocksWithoutData : GoodIn wsX5_room wsX0_blocksWithoutData := goodIn_r _ [21, 22, 23, 24, 5, 25, 26, 27, 28, 29, 11, 30, 13, 38, 39, 40, 41, 42, 43, 44, 45, 46, 47, 48] (by decide +kernel) (by decide +kernel)
set_option maxRecDepth 20000 in
theorem gX5_room_X0_blocksWithoutData : GoodIn wsX5_room (wsV RX5 204 RX0 yX0_blocksWithoutData wsX0_blocksWithoutData) := goodIn_app (goodIn_of _ (by decide +kernel)) ggX5_room_X0_blocksWithoutData
theorem dX5_room_0 : decode cX5_room 0 = .ok (.aload_n 0, 1) := by decide +kernel
theorem dX5_room_1 : decode cX5_room 1 = .ok (.getfield 10, 3) := by decide +kernel
theorem dX5_room_4 : decode cX5_room 4 = .ok (.iload_n 1, 1) := by decide +kernel
theorem dX5_room_5 : decode cX5_room 5 = .ok (.invokevirtual 139, 3) := by decide +kernel
theorem dX5_room_8 : decode cX5_room 8 = .ok (.ifCond .ne 5, 3) := by decide +kernel
theorem dX5_room_11 : decode cX5_room 11 = .ok (.iconst (-1), 1) := by decide +kernel
theorem dX5_room_12 : decode cX5_room 12 = .ok (.ireturn, 1) := by decide +kernel
theorem dX5_room_13 : decode cX5_room 13 = .ok (.aload_n 0, 1) := by decide +kernel
theorem dX5_room_14 : decode cX5_room 14 = .ok (.getfield 10, 3) := by decide +kernel
theorem dX5_room_17 : decode cX5_room 17 = .ok (.iload_n 1, 1) := by decide +kernel
theorem dX5_room_18 : decode cX5_room 18 = .ok (.invokevirtual 151, 3) := by decide +kernel
theorem dX5_room_21 : decode cX5_room 21 = .ok (.ifCond .eq 13, 3) := by decide +kernel
theorem dX5_room_24 : decode cX5_room 24 = .ok (.aload_n 0, 1) := by decide +kernel
theorem dX5_room_25 : decode cX5_room 25 = .ok (.getfield 10, 3) := by decide +kernel
theorem dX5_room_28 : decode cX5_room 28 = .ok (.invokevirtual 204, 3) := by decide +kernel
theorem dX5_room_31 : decode cX5_room 31 = .ok (.goto 5, 3) := by decide +kernel
theorem dX5_room_34 : decode cX5_room 34 = .ok (.bipush (-4), 2) := by decide +kernel
theorem dX5_room_36 : decode cX5_room 36 = .ok (.ireturn, 1) := by decide +kernel
set_option maxRecDepth 20000 in
theorem ggX5_wholeness_X0_allExtents : GoodIn wsX5_wholeness wsX0_allExtents := goodIn_r _ [6, 7, 8, 9, 5, 10, 11, 12, 13, 14, 15, 16, 17, 18, 19, 20, 21, 22, 23, 24, 25, 26, 39, 40, 41, 42, 43, 44, 45, 46, 47, 48, 49] (by decide +kernel) (by decide +kernel)
set_option maxRecDepth 20000 in
theorem gX5_wholeness_X0_allExtents : GoodIn wsX5_wholeness (wsV RX5 198 RX0 yX0_allExtents wsX0_allExtents) := goodIn_app (goodIn_of _ (by decide +kernel)) ggX5_wholeness_X0_allExtents
set_option maxRecDepth 20000 in
theorem ggX5_wholeness_X0_filesWithBlocks : GoodIn wsX5_wholeness wsX0_filesWithBlocks := goodIn_r _ [30, 31, 23, 24, 25, 15, 26, 17, 39, 40, 41, 42, 43, 44, 45, 46, 47, 48, 49] (by decide +kernel) (by decide +kernel)
set_option maxRecDepth 20000 in
theorem gX5_wholeness_X0_filesWithBlocks : GoodIn wsX5_wholeness (wsV RX5 207 RX0 yX0_filesWithBlocks wsX0_filesWithBlocks) := goodIn_app (goodIn_of _ (by decide +kernel)) ggX5_wholeness_X0_filesWithBlocks
theorem dX5_wholeness_0 : decode cX5_wholeness 0 = .ok (.aload_n 0, 1) := by decide +kernel
theorem dX5_wholeness_1 : decode cX5_wholeness 1 = .ok (.getfield 10, 3) := by decide +kernel
theorem dX5_wholeness_4 : decode cX5_wholeness 4 = .ok (.invokevirtual 198, 3) := by decide +kernel
theorem dX5_wholeness_7 : decode cX5_wholeness 7 = .ok (.istore_n 1, 1) := by decide +kernel
theorem dX5_wholeness_8 : decode cX5_wholeness 8 = .ok (.iload_n 1, 1) := by decide +kernel
theorem dX5_wholeness_9 : decode cX5_wholeness 9 = .ok (.ifCond .le 17, 3) := by decide +kernel
theorem dX5_wholeness_12 : decode cX5_wholeness 12 = .ok (.aload_n 0, 1) := by decide +kernel
theorem dX5_wholeness_13 : decode cX5_wholeness 13 = .ok (.getfield 10, 3) := by decide +kernel
theorem dX5_wholeness_16 : decode cX5_wholeness 16 = .ok (.invokevirtual 207, 3) := by decide +kernel
theorem dX5_wholeness_19 : decode cX5_wholeness 19 = .ok (.i2d, 1) := by decide +kernel
theorem dX5_wholeness_20 : decode cX5_wholeness 20 = .ok (.iload_n 1, 1) := by decide +kernel
theorem dX5_wholeness_21 : decode cX5_wholeness 21 = .ok (.i2d, 1) := by decide +kernel
theorem dX5_wholeness_22 : decode cX5_wholeness 22 = .ok (.ddiv, 1) := by decide +kernel
theorem dX5_wholeness_23 : decode cX5_wholeness 23 = .ok (.goto 4, 3) := by decide +kernel
theorem dX5_wholeness_26 : decode cX5_wholeness 26 = .ok (.dconst 1, 1) := by decide +kernel
theorem dX5_wholeness_27 : decode cX5_wholeness 27 = .ok (.dreturn, 1) := by decide +kernel
set_option maxRecDepth 20000 in
theorem ggX5_recorded_X1_record : GoodIn wsX5_recorded wsX1_record := goodIn_r _ [7, 8, 9, 10, 11, 12, 6, 13, 14, 15, 16, 17, 18, 19, 20, 21, 22, 23, 24, 25, 26, 27, 28, 29, 30, 31, 32, 33, 34, 35, 36, 37, 38, 39, 47, 48, 49, 50, 51, 52, 53, 54, 55, 56, 57, 58, 59, 60] (by decide +kernel) (by decide +kernel)
set_option maxRecDepth 20000 in
theorem gX5_recorded_X1_record : GoodIn wsX5_recorded (wsV RX5 102 RX1 yX1_record wsX1_record) := goodIn_app (goodIn_of _ (by decide +kernel)) ggX5_recorded_X1_record
theorem dX5_recorded_0 : decode cX5_recorded 0 = .ok (.iload_n 1, 1) := by decide +kernel
theorem dX5_recorded_1 : decode cX5_recorded 1 = .ok (.ifCond .lt 14, 3) := by decide +kernel
theorem dX5_recorded_4 : decode cX5_recorded 4 = .ok (.aload_n 0, 1) := by decide +kernel
theorem dX5_recorded_5 : decode cX5_recorded 5 = .ok (.getfield 29, 3) := by decide +kernel
theorem dX5_recorded_8 : decode cX5_recorded 8 = .ok (.aload_n 0, 1) := by decide +kernel
theorem dX5_recorded_9 : decode cX5_recorded 9 = .ok (.getfield 16, 3) := by decide +kernel
theorem dX5_recorded_12 : decode cX5_recorded 12 = .ok (.invokevirtual 102, 3) := by decide +kernel
theorem dX5_recorded_15 : decode cX5_recorded 15 = .ok (.iload_n 1, 1) := by decide +kernel
theorem dX5_recorded_16 : decode cX5_recorded 16 = .ok (.ireturn, 1) := by decide +kernel
theorem ok_X1_size : gOk yX1_size RX1 0 := by refine ⟨?_, ?_, ?_, ?_⟩ <;> decide +kernel
theorem ok_X5_recorded : gOk yX5_recorded RX5 1 := by refine ⟨?_, ?_, ?_, ?_⟩ <;> decide +kernel
theorem ok_X5_create : gOk yX5_create RX5 0 := by refine ⟨?_, ?_, ?_, ?_⟩ <;> decide +kernel
theorem ok_X5_open : gOk yX5_open RX5 1 := by refine ⟨?_, ?_, ?_, ?_⟩ <;> decide +kernel
theorem ok_X5_close : gOk yX5_close RX5 1 := by refine ⟨?_, ?_, ?_, ?_⟩ <;> decide +kernel
theorem ok_X5_remove : gOk yX5_remove RX5 1 := by refine ⟨?_, ?_, ?_, ?_⟩ <;> decide +kernel
theorem ok_X5_sync : gOk yX5_sync RX5 1 := by refine ⟨?_, ?_, ?_, ?_⟩ <;> decide +kernel
theorem ok_X5_append : gOk yX5_append RX5 3 := by refine ⟨?_, ?_, ?_, ?_⟩ <;> decide +kernel
theorem ok_X5_cut : gOk yX5_cut RX5 2 := by refine ⟨?_, ?_, ?_, ?_⟩ <;> decide +kernel
theorem ok_X5_crash : gOk yX5_crash RX5 0 := by refine ⟨?_, ?_, ?_, ?_⟩ <;> decide +kernel
theorem ok_X5_mend : gOk yX5_mend RX5 0 := by refine ⟨?_, ?_, ?_, ?_⟩ <;> decide +kernel
theorem ok_X5_set : gOk yX5_set RX5 2 := by refine ⟨?_, ?_, ?_, ?_⟩ <;> decide +kernel
theorem ok_X5_undo : gOk yX5_undo RX5 0 := by refine ⟨?_, ?_, ?_, ?_⟩ <;> decide +kernel
theorem ok_X5_block : gOk yX5_block RX5 2 := by refine ⟨?_, ?_, ?_, ?_⟩ <;> decide +kernel
theorem ok_X5_file : gOk yX5_file RX5 2 := by refine ⟨?_, ?_, ?_, ?_⟩ <;> decide +kernel
theorem ok_X5_extent : gOk yX5_extent RX5 3 := by refine ⟨?_, ?_, ?_, ?_⟩ <;> decide +kernel
theorem ok_X5_run : gOk yX5_run RX5 2 := by refine ⟨?_, ?_, ?_, ?_⟩ <;> decide +kernel
theorem ok_X5_read : gOk yX5_read RX5 4 := by refine ⟨?_, ?_, ?_, ?_⟩ <;> decide +kernel
theorem ok_X5_count : gOk yX5_count RX5 1 := by refine ⟨?_, ?_, ?_, ?_⟩ <;> decide +kernel
theorem ok_X5_total : gOk yX5_total RX5 1 := by refine ⟨?_, ?_, ?_, ?_⟩ <;> decide +kernel
theorem ok_X5_ifAppended : gOk yX5_ifAppended RX5 3 := by refine ⟨?_, ?_, ?_, ?_⟩ <;> decide +kernel
theorem ok_X5_room : gOk yX5_room RX5 1 := by refine ⟨?_, ?_, ?_, ?_⟩ <;> decide +kernel
abbrev rm_X1_size : Room := ({ frames := 0, cells := 0, slots := 0, locals := 0 } : Room)
def f_X1_size (D : Nat → Nat → Nat → Int32) (sav : Int32) (old : Int32) (hsz : Int32) (cs : Nat → Int32) (len : Int32) (g : Nat → Int32) : Option Int32 := some hsz
set_option maxRecDepth 20000 in
theorem in_X1_size : ∀ w ∈ wsX10, w ∈ wsX1_size := by decide +kernel
set_option maxRecDepth 20000 in
theorem fl_X1_size_21 : Cond.fieldLink RX1 21 (TX1 2).1 (TX1 2).2.1 (TX1 2).2.2.1 ∈ wsX1_size := by decide +kernel
set_option maxHeartbeats 4000000 in
set_option maxRecDepth 100000 in
theorem cn_X1_size (l : Launch) (Z : gZ) (ad : Nat → Nat) (hI : gInj 175 ad) (D : Nat → Nat → Nat → Int32) (sav : Int32) (old : Int32) (hsz : Int32) (cs : Nat → Int32) (len : Int32) (g : Nat → Int32) {r : Int32} (h : f_X1_size D sav old hsz cs len g = some r) : gI l yX1_size wsX1_size rm_X1_size Z 175 ad [.ref (ad 169)] (xE Z.2.1 Z.2.2 ad D sav old hsz cs len g) r (xE Z.2.1 Z.2.2 ad D sav old hsz cs len g) := by
  refine g_entryI (cc := cX1_size) (maxL := 1) (by decide +kernel) rfl hI (Nat.le_of_ble_eq_true rfl) (fun X C e => ?_)
  unfold f_X1_size at h
  show GG X Z 1 175 ad (xE Z.2.1 Z.2.2 ad D sav old hsz cs len g) 0 [(0, .ref (ad 169))] []
  refine g_aload_n C dX1_size_0 0 rfl ?_
  refine g_getf (v := .int hsz) C 169 (by decide) rfl rfl in_X1_size 2 (by decide) fl_X1_size_21 rfl dX1_size_1 ?_
  obtain rfl := gs1 h
  exact g_iret C e dX1_size_4
abbrev rm_X5_recorded : Room := ({ frames := 4, cells := 0, slots := 0, locals := 86 } : Room)
def f_X5_recorded (D : Nat → Nat → Nat → Int32) (sav : Int32) (old : Int32) (hsz : Int32) (cs : Nat → Int32) (len : Int32) (g : Nat → Int32) (v1 : Int32) : Option (Int32 × (Nat → Nat → Nat → Int32) × Int32 × Int32) := if v1 < 0 then some (v1, D, old, hsz) else gbb3 (f_X1_record D sav old hsz cs len g 1) (fun D2 old3 hsz4 => some (v1, D2, old3, hsz4))
set_option maxRecDepth 20000 in
theorem in_X5_recorded : ∀ w ∈ wsX50, w ∈ wsX5_recorded := by decide +kernel
set_option maxRecDepth 20000 in
theorem fl_X5_recorded_16 : Cond.fieldLink RX5 16 (TX5 1).1 (TX5 1).2.1 (TX5 1).2.2.1 ∈ wsX5_recorded := by decide +kernel
set_option maxRecDepth 20000 in
theorem fl_X5_recorded_29 : Cond.fieldLink RX5 29 (TX5 4).1 (TX5 4).2.1 (TX5 4).2.2.1 ∈ wsX5_recorded := by decide +kernel
set_option maxHeartbeats 4000000 in
set_option maxRecDepth 100000 in
theorem cn_X5_recorded (l : Launch) (Z : gZ) (ad : Nat → Nat) (hI : gInj 175 ad) (D : Nat → Nat → Nat → Int32) (sav : Int32) (old : Int32) (hsz : Int32) (cs : Nat → Int32) (len : Int32) (g : Nat → Int32) (v1 : Int32) {r : Int32} {D' : Nat → Nat → Nat → Int32} {old' : Int32} {hsz' : Int32} (h : f_X5_recorded D sav old hsz cs len g v1 = some (r, D', old', hsz')) : gI l yX5_recorded wsX5_recorded rm_X5_recorded Z 175 ad [.ref (ad 168), .int v1] (xE Z.2.1 Z.2.2 ad D sav old hsz cs len g) r (xE Z.2.1 Z.2.2 ad D' sav old' hsz' cs len g) := by
  refine g_entryI (cc := cX5_recorded) (maxL := 2) (by decide +kernel) rfl hI (Nat.le_of_ble_eq_true rfl) (fun X C e => ?_)
  unfold f_X5_recorded at h
  show GG X Z 2 175 ad (xE Z.2.1 Z.2.2 ad D sav old hsz cs len g) 0 [(0, .ref (ad 168)), (1, .int v1)] []
  refine g_iload_n C dX5_recorded_0 1 rfl ?_
  refine g_if_lt (tgt := 15) C dX5_recorded_1 (by decide) (fun c1 => ?_) (fun c1 => ?_)
  · replace h := gi_pos c1 h
    refine g_iload_n C dX5_recorded_15 1 rfl ?_
    obtain ⟨rfl, rfl, rfl, rfl⟩ := gs4 h
    exact g_iret C e dX5_recorded_16
  · replace h := gi_neg c1 h
    refine g_aload_n C dX5_recorded_4 0 rfl ?_
    refine g_getf (v := .ref (ad 169)) C 168 (by decide) rfl rfl in_X5_recorded 4 (by decide) fl_X5_recorded_29 rfl dX5_recorded_5 ?_
    refine g_aload_n C dX5_recorded_8 0 rfl ?_
    refine g_getf (v := .ref (ad (21 * 1))) C 168 (by decide) rfl rfl in_X5_recorded 1 (by decide) fl_X5_recorded_16 rfl dX5_recorded_9 ?_
    obtain ⟨D2, old3, hsz4, eD2, h⟩ := gb3 h
    refine g_callWv (rest := []) C gX5_recorded_X1_record rfl ok_X1_record ⟨by decide, by decide⟩ ⟨rfl, rfl⟩ 169 (by decide) rfl rfl (fun hI => cn_X1_record X.2.1 Z ad hI D sav old hsz cs len g 1 (by decide) eD2) rfl dX5_recorded_12 rfl (Nat.le_of_ble_eq_true rfl) ?_
    refine g_iload_n C dX5_recorded_15 1 rfl ?_
    obtain ⟨rfl, rfl, rfl, rfl⟩ := gs4 h
    exact g_iret C e dX5_recorded_16
abbrev rm_X5_create : Room := ({ frames := 5, cells := 0, slots := 0, locals := 107 } : Room)
def f_X5_create (D : Nat → Nat → Nat → Int32) (sav : Int32) (old : Int32) (hsz : Int32) (cs : Nat → Int32) (len : Int32) (g : Nat → Int32) : Option (Int32 × (Nat → Nat → Nat → Int32) × Int32 × Int32) := glet (dcp D 1 0) (fun D1 => gbb2 (f_X0_createFile (D1 0)) (fun r2 w3 => glet (va_up D1 0 w3) (fun D4 => gbb4 (f_X5_recorded D4 sav old hsz cs len g r2) (fun r5 D6 old7 hsz8 => some (r5, D6, old7, hsz8)))))
set_option maxRecDepth 20000 in
theorem in_X5_create : ∀ w ∈ wsX50, w ∈ wsX5_create := by decide +kernel
set_option maxRecDepth 20000 in
theorem fl_X5_create_10 : Cond.fieldLink RX5 10 (TX5 0).1 (TX5 0).2.1 (TX5 0).2.2.1 ∈ wsX5_create := by decide +kernel
set_option maxRecDepth 20000 in
theorem fl_X5_create_16 : Cond.fieldLink RX5 16 (TX5 1).1 (TX5 1).2.1 (TX5 1).2.2.1 ∈ wsX5_create := by decide +kernel
set_option maxHeartbeats 4000000 in
set_option maxRecDepth 100000 in
theorem cn_X5_create (l : Launch) (Z : gZ) (ad : Nat → Nat) (hI : gInj 175 ad) (D : Nat → Nat → Nat → Int32) (sav : Int32) (old : Int32) (hsz : Int32) (cs : Nat → Int32) (len : Int32) (g : Nat → Int32) {r : Int32} {D' : Nat → Nat → Nat → Int32} {old' : Int32} {hsz' : Int32} (h : f_X5_create D sav old hsz cs len g = some (r, D', old', hsz')) : gI l yX5_create wsX5_create rm_X5_create Z 175 ad [.ref (ad 168)] (xE Z.2.1 Z.2.2 ad D sav old hsz cs len g) r (xE Z.2.1 Z.2.2 ad D' sav old' hsz' cs len g) := by
  refine g_entryI (cc := cX5_create) (maxL := 1) (by decide +kernel) rfl hI (Nat.le_of_ble_eq_true rfl) (fun X C e => ?_)
  unfold f_X5_create at h
  show GG X Z 1 175 ad (xE Z.2.1 Z.2.2 ad D sav old hsz cs len g) 0 [(0, .ref (ad 168))] []
  refine g_aload_n C dX5_create_0 0 rfl ?_
  refine g_getf (v := .ref (ad (21 * 1))) C 168 (by decide) rfl rfl in_X5_create 1 (by decide) fl_X5_create_16 rfl dX5_create_1 ?_
  refine g_aload_n C dX5_create_4 0 rfl ?_
  refine g_getf (v := .ref (ad (21 * 0))) C 168 (by decide) rfl rfl in_X5_create 0 (by decide) fl_X5_create_10 rfl dX5_create_5 ?_
  obtain ⟨D1, eD1, h⟩ := gl h
  refine g_callWv (rest := []) (E2 := (xE Z.2.1 Z.2.2 ad D1 sav old hsz cs len g)) (rm' := rm_X0_copyFrom) C gX5_create_X0_copyFrom rfl ok_X0_copyFrom ⟨by decide, by decide⟩ ⟨rfl, rfl⟩ (21 * 1) (by decide) (xE_rec 1 (by decide)) rfl (fun hI => by rw [eD1]; exact cn_X0_copyFrom X.2.1 Z ad hI D sav old hsz cs len g 1 0 (by decide) (by decide) (by decide)) rfl dX5_create_8 rfl (Nat.le_of_ble_eq_true rfl) ?_
  refine g_aload_n C dX5_create_11 0 rfl ?_
  refine g_aload_n C dX5_create_12 0 rfl ?_
  refine g_getf (v := .ref (ad (21 * 0))) C 168 (by decide) rfl rfl in_X5_create 0 (by decide) fl_X5_create_10 rfl dX5_create_13 ?_
  obtain ⟨r2, w3, er2, h⟩ := gb2 h
  obtain ⟨D4, eD4, h⟩ := gl h
  refine g_callVi (rest := [.ref (ad 168)]) C gX5_create_X0_createFile rfl ok_X0_createFile ⟨by decide, by decide⟩ ⟨rfl, rfl⟩ (21 * 0) 21 (by decide) (adc := fun i => ad ((21 * 0) + i)) (fun _ _ => rfl) (xE_dsk 0 (by decide)) 0 (by decide) rfl rfl (fun hI => cn_X0_createFile X.2.1 Z (fun i => ad ((21 * 0) + i)) hI (D1 0)  er2) rfl dX5_create_16 rfl (Nat.le_of_ble_eq_true rfl) (xE Z.2.1 Z.2.2 ad D4 sav old hsz cs len g) (by rw [eD4]; exact (xE_up 0 (by decide))) ?_
  obtain ⟨r5, D6, old7, hsz8, er5, h⟩ := gb4 h
  refine g_callWi (rest := []) C gX5_create_X5_recorded rfl ok_X5_recorded ⟨by decide, by decide⟩ ⟨rfl, rfl⟩ 168 (by decide) rfl rfl (fun hI => cn_X5_recorded X.2.1 Z ad hI D4 sav old hsz cs len g r2 er5) rfl dX5_create_19 rfl (Nat.le_of_ble_eq_true rfl) ?_
  obtain ⟨rfl, rfl, rfl, rfl⟩ := gs4 h
  exact g_iret C e dX5_create_22
abbrev rm_X5_open : Room := ({ frames := 5, cells := 0, slots := 0, locals := 107 } : Room)
def f_X5_open (D : Nat → Nat → Nat → Int32) (sav : Int32) (old : Int32) (hsz : Int32) (cs : Nat → Int32) (len : Int32) (g : Nat → Int32) (v1 : Int32) : Option (Int32 × (Nat → Nat → Nat → Int32) × Int32 × Int32) := glet (dcp D 1 0) (fun D1 => gbb2 (f_X0_openFile (D1 0) v1) (fun r2 w3 => glet (va_up D1 0 w3) (fun D4 => gbb4 (f_X5_recorded D4 sav old hsz cs len g r2) (fun r5 D6 old7 hsz8 => some (r5, D6, old7, hsz8)))))
set_option maxRecDepth 20000 in
theorem in_X5_open : ∀ w ∈ wsX50, w ∈ wsX5_open := by decide +kernel
set_option maxRecDepth 20000 in
theorem fl_X5_open_10 : Cond.fieldLink RX5 10 (TX5 0).1 (TX5 0).2.1 (TX5 0).2.2.1 ∈ wsX5_open := by decide +kernel
set_option maxRecDepth 20000 in
theorem fl_X5_open_16 : Cond.fieldLink RX5 16 (TX5 1).1 (TX5 1).2.1 (TX5 1).2.2.1 ∈ wsX5_open := by decide +kernel
set_option maxHeartbeats 4000000 in
set_option maxRecDepth 100000 in
theorem cn_X5_open (l : Launch) (Z : gZ) (ad : Nat → Nat) (hI : gInj 175 ad) (D : Nat → Nat → Nat → Int32) (sav : Int32) (old : Int32) (hsz : Int32) (cs : Nat → Int32) (len : Int32) (g : Nat → Int32) (v1 : Int32) {r : Int32} {D' : Nat → Nat → Nat → Int32} {old' : Int32} {hsz' : Int32} (h : f_X5_open D sav old hsz cs len g v1 = some (r, D', old', hsz')) : gI l yX5_open wsX5_open rm_X5_open Z 175 ad [.ref (ad 168), .int v1] (xE Z.2.1 Z.2.2 ad D sav old hsz cs len g) r (xE Z.2.1 Z.2.2 ad D' sav old' hsz' cs len g) := by
  refine g_entryI (cc := cX5_open) (maxL := 2) (by decide +kernel) rfl hI (Nat.le_of_ble_eq_true rfl) (fun X C e => ?_)
  unfold f_X5_open at h
  show GG X Z 2 175 ad (xE Z.2.1 Z.2.2 ad D sav old hsz cs len g) 0 [(0, .ref (ad 168)), (1, .int v1)] []
  refine g_aload_n C dX5_open_0 0 rfl ?_
  refine g_getf (v := .ref (ad (21 * 1))) C 168 (by decide) rfl rfl in_X5_open 1 (by decide) fl_X5_open_16 rfl dX5_open_1 ?_
  refine g_aload_n C dX5_open_4 0 rfl ?_
  refine g_getf (v := .ref (ad (21 * 0))) C 168 (by decide) rfl rfl in_X5_open 0 (by decide) fl_X5_open_10 rfl dX5_open_5 ?_
  obtain ⟨D1, eD1, h⟩ := gl h
  refine g_callWv (rest := []) (E2 := (xE Z.2.1 Z.2.2 ad D1 sav old hsz cs len g)) (rm' := rm_X0_copyFrom) C gX5_open_X0_copyFrom rfl ok_X0_copyFrom ⟨by decide, by decide⟩ ⟨rfl, rfl⟩ (21 * 1) (by decide) (xE_rec 1 (by decide)) rfl (fun hI => by rw [eD1]; exact cn_X0_copyFrom X.2.1 Z ad hI D sav old hsz cs len g 1 0 (by decide) (by decide) (by decide)) rfl dX5_open_8 rfl (Nat.le_of_ble_eq_true rfl) ?_
  refine g_aload_n C dX5_open_11 0 rfl ?_
  refine g_aload_n C dX5_open_12 0 rfl ?_
  refine g_getf (v := .ref (ad (21 * 0))) C 168 (by decide) rfl rfl in_X5_open 0 (by decide) fl_X5_open_10 rfl dX5_open_13 ?_
  refine g_iload_n C dX5_open_16 1 rfl ?_
  obtain ⟨r2, w3, er2, h⟩ := gb2 h
  obtain ⟨D4, eD4, h⟩ := gl h
  refine g_callVi (rest := [.ref (ad 168)]) C gX5_open_X0_openFile rfl ok_X0_openFile ⟨by decide, by decide⟩ ⟨rfl, rfl⟩ (21 * 0) 21 (by decide) (adc := fun i => ad ((21 * 0) + i)) (fun _ _ => rfl) (xE_dsk 0 (by decide)) 0 (by decide) rfl rfl (fun hI => cn_X0_openFile X.2.1 Z (fun i => ad ((21 * 0) + i)) hI (D1 0) v1 er2) rfl dX5_open_17 rfl (Nat.le_of_ble_eq_true rfl) (xE Z.2.1 Z.2.2 ad D4 sav old hsz cs len g) (by rw [eD4]; exact (xE_up 0 (by decide))) ?_
  obtain ⟨r5, D6, old7, hsz8, er5, h⟩ := gb4 h
  refine g_callWi (rest := []) C gX5_open_X5_recorded rfl ok_X5_recorded ⟨by decide, by decide⟩ ⟨rfl, rfl⟩ 168 (by decide) rfl rfl (fun hI => cn_X5_recorded X.2.1 Z ad hI D4 sav old hsz cs len g r2 er5) rfl dX5_open_20 rfl (Nat.le_of_ble_eq_true rfl) ?_
  obtain ⟨rfl, rfl, rfl, rfl⟩ := gs4 h
  exact g_iret C e dX5_open_23
abbrev rm_X5_close : Room := ({ frames := 5, cells := 0, slots := 0, locals := 107 } : Room)
def f_X5_close (D : Nat → Nat → Nat → Int32) (sav : Int32) (old : Int32) (hsz : Int32) (cs : Nat → Int32) (len : Int32) (g : Nat → Int32) (v1 : Int32) : Option (Int32 × (Nat → Nat → Nat → Int32) × Int32 × Int32) := glet (dcp D 1 0) (fun D1 => gbb2 (f_X0_closeFile (D1 0) v1) (fun r2 w3 => glet (va_up D1 0 w3) (fun D4 => gbb4 (f_X5_recorded D4 sav old hsz cs len g r2) (fun r5 D6 old7 hsz8 => some (r5, D6, old7, hsz8)))))
set_option maxRecDepth 20000 in
theorem in_X5_close : ∀ w ∈ wsX50, w ∈ wsX5_close := by decide +kernel
set_option maxRecDepth 20000 in
theorem fl_X5_close_10 : Cond.fieldLink RX5 10 (TX5 0).1 (TX5 0).2.1 (TX5 0).2.2.1 ∈ wsX5_close := by decide +kernel
set_option maxRecDepth 20000 in
theorem fl_X5_close_16 : Cond.fieldLink RX5 16 (TX5 1).1 (TX5 1).2.1 (TX5 1).2.2.1 ∈ wsX5_close := by decide +kernel
set_option maxHeartbeats 4000000 in
set_option maxRecDepth 100000 in
theorem cn_X5_close (l : Launch) (Z : gZ) (ad : Nat → Nat) (hI : gInj 175 ad) (D : Nat → Nat → Nat → Int32) (sav : Int32) (old : Int32) (hsz : Int32) (cs : Nat → Int32) (len : Int32) (g : Nat → Int32) (v1 : Int32) {r : Int32} {D' : Nat → Nat → Nat → Int32} {old' : Int32} {hsz' : Int32} (h : f_X5_close D sav old hsz cs len g v1 = some (r, D', old', hsz')) : gI l yX5_close wsX5_close rm_X5_close Z 175 ad [.ref (ad 168), .int v1] (xE Z.2.1 Z.2.2 ad D sav old hsz cs len g) r (xE Z.2.1 Z.2.2 ad D' sav old' hsz' cs len g) := by
  refine g_entryI (cc := cX5_close) (maxL := 2) (by decide +kernel) rfl hI (Nat.le_of_ble_eq_true rfl) (fun X C e => ?_)
  unfold f_X5_close at h
  show GG X Z 2 175 ad (xE Z.2.1 Z.2.2 ad D sav old hsz cs len g) 0 [(0, .ref (ad 168)), (1, .int v1)] []
  refine g_aload_n C dX5_close_0 0 rfl ?_
  refine g_getf (v := .ref (ad (21 * 1))) C 168 (by decide) rfl rfl in_X5_close 1 (by decide) fl_X5_close_16 rfl dX5_close_1 ?_
  refine g_aload_n C dX5_close_4 0 rfl ?_
  refine g_getf (v := .ref (ad (21 * 0))) C 168 (by decide) rfl rfl in_X5_close 0 (by decide) fl_X5_close_10 rfl dX5_close_5 ?_
  obtain ⟨D1, eD1, h⟩ := gl h
  refine g_callWv (rest := []) (E2 := (xE Z.2.1 Z.2.2 ad D1 sav old hsz cs len g)) (rm' := rm_X0_copyFrom) C gX5_close_X0_copyFrom rfl ok_X0_copyFrom ⟨by decide, by decide⟩ ⟨rfl, rfl⟩ (21 * 1) (by decide) (xE_rec 1 (by decide)) rfl (fun hI => by rw [eD1]; exact cn_X0_copyFrom X.2.1 Z ad hI D sav old hsz cs len g 1 0 (by decide) (by decide) (by decide)) rfl dX5_close_8 rfl (Nat.le_of_ble_eq_true rfl) ?_
  refine g_aload_n C dX5_close_11 0 rfl ?_
  refine g_aload_n C dX5_close_12 0 rfl ?_
  refine g_getf (v := .ref (ad (21 * 0))) C 168 (by decide) rfl rfl in_X5_close 0 (by decide) fl_X5_close_10 rfl dX5_close_13 ?_
  refine g_iload_n C dX5_close_16 1 rfl ?_
  obtain ⟨r2, w3, er2, h⟩ := gb2 h
  obtain ⟨D4, eD4, h⟩ := gl h
  refine g_callVi (rest := [.ref (ad 168)]) C gX5_close_X0_closeFile rfl ok_X0_closeFile ⟨by decide, by decide⟩ ⟨rfl, rfl⟩ (21 * 0) 21 (by decide) (adc := fun i => ad ((21 * 0) + i)) (fun _ _ => rfl) (xE_dsk 0 (by decide)) 0 (by decide) rfl rfl (fun hI => cn_X0_closeFile X.2.1 Z (fun i => ad ((21 * 0) + i)) hI (D1 0) v1 er2) rfl dX5_close_17 rfl (Nat.le_of_ble_eq_true rfl) (xE Z.2.1 Z.2.2 ad D4 sav old hsz cs len g) (by rw [eD4]; exact (xE_up 0 (by decide))) ?_
  obtain ⟨r5, D6, old7, hsz8, er5, h⟩ := gb4 h
  refine g_callWi (rest := []) C gX5_close_X5_recorded rfl ok_X5_recorded ⟨by decide, by decide⟩ ⟨rfl, rfl⟩ 168 (by decide) rfl rfl (fun hI => cn_X5_recorded X.2.1 Z ad hI D4 sav old hsz cs len g r2 er5) rfl dX5_close_20 rfl (Nat.le_of_ble_eq_true rfl) ?_
  obtain ⟨rfl, rfl, rfl, rfl⟩ := gs4 h
  exact g_iret C e dX5_close_23
abbrev rm_X5_remove : Room := ({ frames := 5, cells := 0, slots := 0, locals := 107 } : Room)
def f_X5_remove (D : Nat → Nat → Nat → Int32) (sav : Int32) (old : Int32) (hsz : Int32) (cs : Nat → Int32) (len : Int32) (g : Nat → Int32) (v1 : Int32) : Option (Int32 × (Nat → Nat → Nat → Int32) × Int32 × Int32) := glet (dcp D 1 0) (fun D1 => gbb2 (f_X0_removeFile (D1 0) v1) (fun r2 w3 => glet (va_up D1 0 w3) (fun D4 => gbb4 (f_X5_recorded D4 sav old hsz cs len g r2) (fun r5 D6 old7 hsz8 => some (r5, D6, old7, hsz8)))))
set_option maxRecDepth 20000 in
theorem in_X5_remove : ∀ w ∈ wsX50, w ∈ wsX5_remove := by decide +kernel
set_option maxRecDepth 20000 in
theorem fl_X5_remove_10 : Cond.fieldLink RX5 10 (TX5 0).1 (TX5 0).2.1 (TX5 0).2.2.1 ∈ wsX5_remove := by decide +kernel
set_option maxRecDepth 20000 in
theorem fl_X5_remove_16 : Cond.fieldLink RX5 16 (TX5 1).1 (TX5 1).2.1 (TX5 1).2.2.1 ∈ wsX5_remove := by decide +kernel
set_option maxHeartbeats 4000000 in
set_option maxRecDepth 100000 in
theorem cn_X5_remove (l : Launch) (Z : gZ) (ad : Nat → Nat) (hI : gInj 175 ad) (D : Nat → Nat → Nat → Int32) (sav : Int32) (old : Int32) (hsz : Int32) (cs : Nat → Int32) (len : Int32) (g : Nat → Int32) (v1 : Int32) {r : Int32} {D' : Nat → Nat → Nat → Int32} {old' : Int32} {hsz' : Int32} (h : f_X5_remove D sav old hsz cs len g v1 = some (r, D', old', hsz')) : gI l yX5_remove wsX5_remove rm_X5_remove Z 175 ad [.ref (ad 168), .int v1] (xE Z.2.1 Z.2.2 ad D sav old hsz cs len g) r (xE Z.2.1 Z.2.2 ad D' sav old' hsz' cs len g) := by
  refine g_entryI (cc := cX5_remove) (maxL := 2) (by decide +kernel) rfl hI (Nat.le_of_ble_eq_true rfl) (fun X C e => ?_)
  unfold f_X5_remove at h
  show GG X Z 2 175 ad (xE Z.2.1 Z.2.2 ad D sav old hsz cs len g) 0 [(0, .ref (ad 168)), (1, .int v1)] []
  refine g_aload_n C dX5_remove_0 0 rfl ?_
  refine g_getf (v := .ref (ad (21 * 1))) C 168 (by decide) rfl rfl in_X5_remove 1 (by decide) fl_X5_remove_16 rfl dX5_remove_1 ?_
  refine g_aload_n C dX5_remove_4 0 rfl ?_
  refine g_getf (v := .ref (ad (21 * 0))) C 168 (by decide) rfl rfl in_X5_remove 0 (by decide) fl_X5_remove_10 rfl dX5_remove_5 ?_
  obtain ⟨D1, eD1, h⟩ := gl h
  refine g_callWv (rest := []) (E2 := (xE Z.2.1 Z.2.2 ad D1 sav old hsz cs len g)) (rm' := rm_X0_copyFrom) C gX5_remove_X0_copyFrom rfl ok_X0_copyFrom ⟨by decide, by decide⟩ ⟨rfl, rfl⟩ (21 * 1) (by decide) (xE_rec 1 (by decide)) rfl (fun hI => by rw [eD1]; exact cn_X0_copyFrom X.2.1 Z ad hI D sav old hsz cs len g 1 0 (by decide) (by decide) (by decide)) rfl dX5_remove_8 rfl (Nat.le_of_ble_eq_true rfl) ?_
  refine g_aload_n C dX5_remove_11 0 rfl ?_
  refine g_aload_n C dX5_remove_12 0 rfl ?_
  refine g_getf (v := .ref (ad (21 * 0))) C 168 (by decide) rfl rfl in_X5_remove 0 (by decide) fl_X5_remove_10 rfl dX5_remove_13 ?_
  refine g_iload_n C dX5_remove_16 1 rfl ?_
  obtain ⟨r2, w3, er2, h⟩ := gb2 h
  obtain ⟨D4, eD4, h⟩ := gl h
  refine g_callVi (rest := [.ref (ad 168)]) C gX5_remove_X0_removeFile rfl ok_X0_removeFile ⟨by decide, by decide⟩ ⟨rfl, rfl⟩ (21 * 0) 21 (by decide) (adc := fun i => ad ((21 * 0) + i)) (fun _ _ => rfl) (xE_dsk 0 (by decide)) 0 (by decide) rfl rfl (fun hI => cn_X0_removeFile X.2.1 Z (fun i => ad ((21 * 0) + i)) hI (D1 0) v1 er2) rfl dX5_remove_17 rfl (Nat.le_of_ble_eq_true rfl) (xE Z.2.1 Z.2.2 ad D4 sav old hsz cs len g) (by rw [eD4]; exact (xE_up 0 (by decide))) ?_
  obtain ⟨r5, D6, old7, hsz8, er5, h⟩ := gb4 h
  refine g_callWi (rest := []) C gX5_remove_X5_recorded rfl ok_X5_recorded ⟨by decide, by decide⟩ ⟨rfl, rfl⟩ 168 (by decide) rfl rfl (fun hI => cn_X5_recorded X.2.1 Z ad hI D4 sav old hsz cs len g r2 er5) rfl dX5_remove_20 rfl (Nat.le_of_ble_eq_true rfl) ?_
  obtain ⟨rfl, rfl, rfl, rfl⟩ := gs4 h
  exact g_iret C e dX5_remove_23
abbrev rm_X5_sync : Room := ({ frames := 5, cells := 0, slots := 0, locals := 107 } : Room)
def f_X5_sync (D : Nat → Nat → Nat → Int32) (sav : Int32) (old : Int32) (hsz : Int32) (cs : Nat → Int32) (len : Int32) (g : Nat → Int32) (v1 : Int32) : Option (Int32 × (Nat → Nat → Nat → Int32) × Int32 × Int32) := glet (dcp D 1 0) (fun D1 => gbb2 (f_X0_syncFile (D1 0) v1) (fun r2 w3 => glet (va_up D1 0 w3) (fun D4 => gbb4 (f_X5_recorded D4 sav old hsz cs len g r2) (fun r5 D6 old7 hsz8 => some (r5, D6, old7, hsz8)))))
set_option maxRecDepth 20000 in
theorem in_X5_sync : ∀ w ∈ wsX50, w ∈ wsX5_sync := by decide +kernel
set_option maxRecDepth 20000 in
theorem fl_X5_sync_10 : Cond.fieldLink RX5 10 (TX5 0).1 (TX5 0).2.1 (TX5 0).2.2.1 ∈ wsX5_sync := by decide +kernel
set_option maxRecDepth 20000 in
theorem fl_X5_sync_16 : Cond.fieldLink RX5 16 (TX5 1).1 (TX5 1).2.1 (TX5 1).2.2.1 ∈ wsX5_sync := by decide +kernel
set_option maxHeartbeats 4000000 in
set_option maxRecDepth 100000 in
theorem cn_X5_sync (l : Launch) (Z : gZ) (ad : Nat → Nat) (hI : gInj 175 ad) (D : Nat → Nat → Nat → Int32) (sav : Int32) (old : Int32) (hsz : Int32) (cs : Nat → Int32) (len : Int32) (g : Nat → Int32) (v1 : Int32) {r : Int32} {D' : Nat → Nat → Nat → Int32} {old' : Int32} {hsz' : Int32} (h : f_X5_sync D sav old hsz cs len g v1 = some (r, D', old', hsz')) : gI l yX5_sync wsX5_sync rm_X5_sync Z 175 ad [.ref (ad 168), .int v1] (xE Z.2.1 Z.2.2 ad D sav old hsz cs len g) r (xE Z.2.1 Z.2.2 ad D' sav old' hsz' cs len g) := by
  refine g_entryI (cc := cX5_sync) (maxL := 2) (by decide +kernel) rfl hI (Nat.le_of_ble_eq_true rfl) (fun X C e => ?_)
  unfold f_X5_sync at h
  show GG X Z 2 175 ad (xE Z.2.1 Z.2.2 ad D sav old hsz cs len g) 0 [(0, .ref (ad 168)), (1, .int v1)] []
  refine g_aload_n C dX5_sync_0 0 rfl ?_
  refine g_getf (v := .ref (ad (21 * 1))) C 168 (by decide) rfl rfl in_X5_sync 1 (by decide) fl_X5_sync_16 rfl dX5_sync_1 ?_
  refine g_aload_n C dX5_sync_4 0 rfl ?_
  refine g_getf (v := .ref (ad (21 * 0))) C 168 (by decide) rfl rfl in_X5_sync 0 (by decide) fl_X5_sync_10 rfl dX5_sync_5 ?_
  obtain ⟨D1, eD1, h⟩ := gl h
  refine g_callWv (rest := []) (E2 := (xE Z.2.1 Z.2.2 ad D1 sav old hsz cs len g)) (rm' := rm_X0_copyFrom) C gX5_sync_X0_copyFrom rfl ok_X0_copyFrom ⟨by decide, by decide⟩ ⟨rfl, rfl⟩ (21 * 1) (by decide) (xE_rec 1 (by decide)) rfl (fun hI => by rw [eD1]; exact cn_X0_copyFrom X.2.1 Z ad hI D sav old hsz cs len g 1 0 (by decide) (by decide) (by decide)) rfl dX5_sync_8 rfl (Nat.le_of_ble_eq_true rfl) ?_
  refine g_aload_n C dX5_sync_11 0 rfl ?_
  refine g_aload_n C dX5_sync_12 0 rfl ?_
  refine g_getf (v := .ref (ad (21 * 0))) C 168 (by decide) rfl rfl in_X5_sync 0 (by decide) fl_X5_sync_10 rfl dX5_sync_13 ?_
  refine g_iload_n C dX5_sync_16 1 rfl ?_
  obtain ⟨r2, w3, er2, h⟩ := gb2 h
  obtain ⟨D4, eD4, h⟩ := gl h
  refine g_callVi (rest := [.ref (ad 168)]) C gX5_sync_X0_syncFile rfl ok_X0_syncFile ⟨by decide, by decide⟩ ⟨rfl, rfl⟩ (21 * 0) 21 (by decide) (adc := fun i => ad ((21 * 0) + i)) (fun _ _ => rfl) (xE_dsk 0 (by decide)) 0 (by decide) rfl rfl (fun hI => cn_X0_syncFile X.2.1 Z (fun i => ad ((21 * 0) + i)) hI (D1 0) v1 er2) rfl dX5_sync_17 rfl (Nat.le_of_ble_eq_true rfl) (xE Z.2.1 Z.2.2 ad D4 sav old hsz cs len g) (by rw [eD4]; exact (xE_up 0 (by decide))) ?_
  obtain ⟨r5, D6, old7, hsz8, er5, h⟩ := gb4 h
  refine g_callWi (rest := []) C gX5_sync_X5_recorded rfl ok_X5_recorded ⟨by decide, by decide⟩ ⟨rfl, rfl⟩ 168 (by decide) rfl rfl (fun hI => cn_X5_recorded X.2.1 Z ad hI D4 sav old hsz cs len g r2 er5) rfl dX5_sync_20 rfl (Nat.le_of_ble_eq_true rfl) ?_
  obtain ⟨rfl, rfl, rfl, rfl⟩ := gs4 h
  exact g_iret C e dX5_sync_23
abbrev rm_X5_append : Room := ({ frames := 5, cells := 0, slots := 0, locals := 121 } : Room)
def f_X5_append (D : Nat → Nat → Nat → Int32) (sav : Int32) (old : Int32) (hsz : Int32) (cs : Nat → Int32) (len : Int32) (g : Nat → Int32) (v1 : Int32) (v2 : Int32) (v3 : Int32) : Option (Int32 × (Nat → Nat → Nat → Int32) × Int32 × Int32) := glet (dcp D 1 0) (fun D1 => gbb2 (f_X0_appendTo (D1 0) v1 v2 v3) (fun r2 w3 => glet (va_up D1 0 w3) (fun D4 => gbb4 (f_X5_recorded D4 sav old hsz cs len g r2) (fun r5 D6 old7 hsz8 => some (r5, D6, old7, hsz8)))))
set_option maxRecDepth 20000 in
theorem in_X5_append : ∀ w ∈ wsX50, w ∈ wsX5_append := by decide +kernel
set_option maxRecDepth 20000 in
theorem fl_X5_append_10 : Cond.fieldLink RX5 10 (TX5 0).1 (TX5 0).2.1 (TX5 0).2.2.1 ∈ wsX5_append := by decide +kernel
set_option maxRecDepth 20000 in
theorem fl_X5_append_16 : Cond.fieldLink RX5 16 (TX5 1).1 (TX5 1).2.1 (TX5 1).2.2.1 ∈ wsX5_append := by decide +kernel
set_option maxHeartbeats 4000000 in
set_option maxRecDepth 100000 in
theorem cn_X5_append (l : Launch) (Z : gZ) (ad : Nat → Nat) (hI : gInj 175 ad) (D : Nat → Nat → Nat → Int32) (sav : Int32) (old : Int32) (hsz : Int32) (cs : Nat → Int32) (len : Int32) (g : Nat → Int32) (v1 : Int32) (v2 : Int32) (v3 : Int32) {r : Int32} {D' : Nat → Nat → Nat → Int32} {old' : Int32} {hsz' : Int32} (h : f_X5_append D sav old hsz cs len g v1 v2 v3 = some (r, D', old', hsz')) : gI l yX5_append wsX5_append rm_X5_append Z 175 ad [.ref (ad 168), .int v1, .int v2, .int v3] (xE Z.2.1 Z.2.2 ad D sav old hsz cs len g) r (xE Z.2.1 Z.2.2 ad D' sav old' hsz' cs len g) := by
  refine g_entryI (cc := cX5_append) (maxL := 4) (by decide +kernel) rfl hI (Nat.le_of_ble_eq_true rfl) (fun X C e => ?_)
  unfold f_X5_append at h
  show GG X Z 4 175 ad (xE Z.2.1 Z.2.2 ad D sav old hsz cs len g) 0 [(0, .ref (ad 168)), (1, .int v1), (2, .int v2), (3, .int v3)] []
  refine g_aload_n C dX5_append_0 0 rfl ?_
  refine g_getf (v := .ref (ad (21 * 1))) C 168 (by decide) rfl rfl in_X5_append 1 (by decide) fl_X5_append_16 rfl dX5_append_1 ?_
  refine g_aload_n C dX5_append_4 0 rfl ?_
  refine g_getf (v := .ref (ad (21 * 0))) C 168 (by decide) rfl rfl in_X5_append 0 (by decide) fl_X5_append_10 rfl dX5_append_5 ?_
  obtain ⟨D1, eD1, h⟩ := gl h
  refine g_callWv (rest := []) (E2 := (xE Z.2.1 Z.2.2 ad D1 sav old hsz cs len g)) (rm' := rm_X0_copyFrom) C gX5_append_X0_copyFrom rfl ok_X0_copyFrom ⟨by decide, by decide⟩ ⟨rfl, rfl⟩ (21 * 1) (by decide) (xE_rec 1 (by decide)) rfl (fun hI => by rw [eD1]; exact cn_X0_copyFrom X.2.1 Z ad hI D sav old hsz cs len g 1 0 (by decide) (by decide) (by decide)) rfl dX5_append_8 rfl (Nat.le_of_ble_eq_true rfl) ?_
  refine g_aload_n C dX5_append_11 0 rfl ?_
  refine g_aload_n C dX5_append_12 0 rfl ?_
  refine g_getf (v := .ref (ad (21 * 0))) C 168 (by decide) rfl rfl in_X5_append 0 (by decide) fl_X5_append_10 rfl dX5_append_13 ?_
  refine g_iload_n C dX5_append_16 1 rfl ?_
  refine g_iload_n C dX5_append_17 2 rfl ?_
  refine g_iload_n C dX5_append_18 3 rfl ?_
  obtain ⟨r2, w3, er2, h⟩ := gb2 h
  obtain ⟨D4, eD4, h⟩ := gl h
  refine g_callVi (rest := [.ref (ad 168)]) C gX5_append_X0_appendTo rfl ok_X0_appendTo ⟨by decide, by decide⟩ ⟨rfl, rfl⟩ (21 * 0) 21 (by decide) (adc := fun i => ad ((21 * 0) + i)) (fun _ _ => rfl) (xE_dsk 0 (by decide)) 0 (by decide) rfl rfl (fun hI => cn_X0_appendTo X.2.1 Z (fun i => ad ((21 * 0) + i)) hI (D1 0) v1 v2 v3 er2) rfl dX5_append_19 rfl (Nat.le_of_ble_eq_true rfl) (xE Z.2.1 Z.2.2 ad D4 sav old hsz cs len g) (by rw [eD4]; exact (xE_up 0 (by decide))) ?_
  obtain ⟨r5, D6, old7, hsz8, er5, h⟩ := gb4 h
  refine g_callWi (rest := []) C gX5_append_X5_recorded rfl ok_X5_recorded ⟨by decide, by decide⟩ ⟨rfl, rfl⟩ 168 (by decide) rfl rfl (fun hI => cn_X5_recorded X.2.1 Z ad hI D4 sav old hsz cs len g r2 er5) rfl dX5_append_22 rfl (Nat.le_of_ble_eq_true rfl) ?_
  obtain ⟨rfl, rfl, rfl, rfl⟩ := gs4 h
  exact g_iret C e dX5_append_25
abbrev rm_X5_cut : Room := ({ frames := 5, cells := 0, slots := 0, locals := 107 } : Room)
def f_X5_cut (D : Nat → Nat → Nat → Int32) (sav : Int32) (old : Int32) (hsz : Int32) (cs : Nat → Int32) (len : Int32) (g : Nat → Int32) (v1 : Int32) (v2 : Int32) : Option (Int32 × (Nat → Nat → Nat → Int32) × Int32 × Int32) := glet (dcp D 1 0) (fun D1 => gbb2 (f_X0_cutFile (D1 0) v1 v2) (fun r2 w3 => glet (va_up D1 0 w3) (fun D4 => gbb4 (f_X5_recorded D4 sav old hsz cs len g r2) (fun r5 D6 old7 hsz8 => some (r5, D6, old7, hsz8)))))
set_option maxRecDepth 20000 in
theorem in_X5_cut : ∀ w ∈ wsX50, w ∈ wsX5_cut := by decide +kernel
set_option maxRecDepth 20000 in
theorem fl_X5_cut_10 : Cond.fieldLink RX5 10 (TX5 0).1 (TX5 0).2.1 (TX5 0).2.2.1 ∈ wsX5_cut := by decide +kernel
set_option maxRecDepth 20000 in
theorem fl_X5_cut_16 : Cond.fieldLink RX5 16 (TX5 1).1 (TX5 1).2.1 (TX5 1).2.2.1 ∈ wsX5_cut := by decide +kernel
set_option maxHeartbeats 4000000 in
set_option maxRecDepth 100000 in
theorem cn_X5_cut (l : Launch) (Z : gZ) (ad : Nat → Nat) (hI : gInj 175 ad) (D : Nat → Nat → Nat → Int32) (sav : Int32) (old : Int32) (hsz : Int32) (cs : Nat → Int32) (len : Int32) (g : Nat → Int32) (v1 : Int32) (v2 : Int32) {r : Int32} {D' : Nat → Nat → Nat → Int32} {old' : Int32} {hsz' : Int32} (h : f_X5_cut D sav old hsz cs len g v1 v2 = some (r, D', old', hsz')) : gI l yX5_cut wsX5_cut rm_X5_cut Z 175 ad [.ref (ad 168), .int v1, .int v2] (xE Z.2.1 Z.2.2 ad D sav old hsz cs len g) r (xE Z.2.1 Z.2.2 ad D' sav old' hsz' cs len g) := by
  refine g_entryI (cc := cX5_cut) (maxL := 3) (by decide +kernel) rfl hI (Nat.le_of_ble_eq_true rfl) (fun X C e => ?_)
  unfold f_X5_cut at h
  show GG X Z 3 175 ad (xE Z.2.1 Z.2.2 ad D sav old hsz cs len g) 0 [(0, .ref (ad 168)), (1, .int v1), (2, .int v2)] []
  refine g_aload_n C dX5_cut_0 0 rfl ?_
  refine g_getf (v := .ref (ad (21 * 1))) C 168 (by decide) rfl rfl in_X5_cut 1 (by decide) fl_X5_cut_16 rfl dX5_cut_1 ?_
  refine g_aload_n C dX5_cut_4 0 rfl ?_
  refine g_getf (v := .ref (ad (21 * 0))) C 168 (by decide) rfl rfl in_X5_cut 0 (by decide) fl_X5_cut_10 rfl dX5_cut_5 ?_
  obtain ⟨D1, eD1, h⟩ := gl h
  refine g_callWv (rest := []) (E2 := (xE Z.2.1 Z.2.2 ad D1 sav old hsz cs len g)) (rm' := rm_X0_copyFrom) C gX5_cut_X0_copyFrom rfl ok_X0_copyFrom ⟨by decide, by decide⟩ ⟨rfl, rfl⟩ (21 * 1) (by decide) (xE_rec 1 (by decide)) rfl (fun hI => by rw [eD1]; exact cn_X0_copyFrom X.2.1 Z ad hI D sav old hsz cs len g 1 0 (by decide) (by decide) (by decide)) rfl dX5_cut_8 rfl (Nat.le_of_ble_eq_true rfl) ?_
  refine g_aload_n C dX5_cut_11 0 rfl ?_
  refine g_aload_n C dX5_cut_12 0 rfl ?_
  refine g_getf (v := .ref (ad (21 * 0))) C 168 (by decide) rfl rfl in_X5_cut 0 (by decide) fl_X5_cut_10 rfl dX5_cut_13 ?_
  refine g_iload_n C dX5_cut_16 1 rfl ?_
  refine g_iload_n C dX5_cut_17 2 rfl ?_
  obtain ⟨r2, w3, er2, h⟩ := gb2 h
  obtain ⟨D4, eD4, h⟩ := gl h
  refine g_callVi (rest := [.ref (ad 168)]) C gX5_cut_X0_cutFile rfl ok_X0_cutFile ⟨by decide, by decide⟩ ⟨rfl, rfl⟩ (21 * 0) 21 (by decide) (adc := fun i => ad ((21 * 0) + i)) (fun _ _ => rfl) (xE_dsk 0 (by decide)) 0 (by decide) rfl rfl (fun hI => cn_X0_cutFile X.2.1 Z (fun i => ad ((21 * 0) + i)) hI (D1 0) v1 v2 er2) rfl dX5_cut_18 rfl (Nat.le_of_ble_eq_true rfl) (xE Z.2.1 Z.2.2 ad D4 sav old hsz cs len g) (by rw [eD4]; exact (xE_up 0 (by decide))) ?_
  obtain ⟨r5, D6, old7, hsz8, er5, h⟩ := gb4 h
  refine g_callWi (rest := []) C gX5_cut_X5_recorded rfl ok_X5_recorded ⟨by decide, by decide⟩ ⟨rfl, rfl⟩ 168 (by decide) rfl rfl (fun hI => cn_X5_recorded X.2.1 Z ad hI D4 sav old hsz cs len g r2 er5) rfl dX5_cut_21 rfl (Nat.le_of_ble_eq_true rfl) ?_
  obtain ⟨rfl, rfl, rfl, rfl⟩ := gs4 h
  exact g_iret C e dX5_cut_24
abbrev rm_X5_crash : Room := ({ frames := 5, cells := 0, slots := 0, locals := 107 } : Room)
def f_X5_crash (D : Nat → Nat → Nat → Int32) (sav : Int32) (old : Int32) (hsz : Int32) (cs : Nat → Int32) (len : Int32) (g : Nat → Int32) : Option (Int32 × (Nat → Nat → Nat → Int32) × Int32 × Int32) := glet (dcp D 1 0) (fun D1 => gbb2 (f_X0_crashAll (D1 0)) (fun r2 w3 => glet (va_up D1 0 w3) (fun D4 => gbb4 (f_X5_recorded D4 sav old hsz cs len g r2) (fun r5 D6 old7 hsz8 => some (r5, D6, old7, hsz8)))))
set_option maxRecDepth 20000 in
theorem in_X5_crash : ∀ w ∈ wsX50, w ∈ wsX5_crash := by decide +kernel
set_option maxRecDepth 20000 in
theorem fl_X5_crash_10 : Cond.fieldLink RX5 10 (TX5 0).1 (TX5 0).2.1 (TX5 0).2.2.1 ∈ wsX5_crash := by decide +kernel
set_option maxRecDepth 20000 in
theorem fl_X5_crash_16 : Cond.fieldLink RX5 16 (TX5 1).1 (TX5 1).2.1 (TX5 1).2.2.1 ∈ wsX5_crash := by decide +kernel
set_option maxHeartbeats 4000000 in
set_option maxRecDepth 100000 in
theorem cn_X5_crash (l : Launch) (Z : gZ) (ad : Nat → Nat) (hI : gInj 175 ad) (D : Nat → Nat → Nat → Int32) (sav : Int32) (old : Int32) (hsz : Int32) (cs : Nat → Int32) (len : Int32) (g : Nat → Int32) {r : Int32} {D' : Nat → Nat → Nat → Int32} {old' : Int32} {hsz' : Int32} (h : f_X5_crash D sav old hsz cs len g = some (r, D', old', hsz')) : gI l yX5_crash wsX5_crash rm_X5_crash Z 175 ad [.ref (ad 168)] (xE Z.2.1 Z.2.2 ad D sav old hsz cs len g) r (xE Z.2.1 Z.2.2 ad D' sav old' hsz' cs len g) := by
  refine g_entryI (cc := cX5_crash) (maxL := 1) (by decide +kernel) rfl hI (Nat.le_of_ble_eq_true rfl) (fun X C e => ?_)
  unfold f_X5_crash at h
  show GG X Z 1 175 ad (xE Z.2.1 Z.2.2 ad D sav old hsz cs len g) 0 [(0, .ref (ad 168))] []
  refine g_aload_n C dX5_crash_0 0 rfl ?_
  refine g_getf (v := .ref (ad (21 * 1))) C 168 (by decide) rfl rfl in_X5_crash 1 (by decide) fl_X5_crash_16 rfl dX5_crash_1 ?_
  refine g_aload_n C dX5_crash_4 0 rfl ?_
  refine g_getf (v := .ref (ad (21 * 0))) C 168 (by decide) rfl rfl in_X5_crash 0 (by decide) fl_X5_crash_10 rfl dX5_crash_5 ?_
  obtain ⟨D1, eD1, h⟩ := gl h
  refine g_callWv (rest := []) (E2 := (xE Z.2.1 Z.2.2 ad D1 sav old hsz cs len g)) (rm' := rm_X0_copyFrom) C gX5_crash_X0_copyFrom rfl ok_X0_copyFrom ⟨by decide, by decide⟩ ⟨rfl, rfl⟩ (21 * 1) (by decide) (xE_rec 1 (by decide)) rfl (fun hI => by rw [eD1]; exact cn_X0_copyFrom X.2.1 Z ad hI D sav old hsz cs len g 1 0 (by decide) (by decide) (by decide)) rfl dX5_crash_8 rfl (Nat.le_of_ble_eq_true rfl) ?_
  refine g_aload_n C dX5_crash_11 0 rfl ?_
  refine g_aload_n C dX5_crash_12 0 rfl ?_
  refine g_getf (v := .ref (ad (21 * 0))) C 168 (by decide) rfl rfl in_X5_crash 0 (by decide) fl_X5_crash_10 rfl dX5_crash_13 ?_
  obtain ⟨r2, w3, er2, h⟩ := gb2 h
  obtain ⟨D4, eD4, h⟩ := gl h
  refine g_callVi (rest := [.ref (ad 168)]) C gX5_crash_X0_crashAll rfl ok_X0_crashAll ⟨by decide, by decide⟩ ⟨rfl, rfl⟩ (21 * 0) 21 (by decide) (adc := fun i => ad ((21 * 0) + i)) (fun _ _ => rfl) (xE_dsk 0 (by decide)) 0 (by decide) rfl rfl (fun hI => cn_X0_crashAll X.2.1 Z (fun i => ad ((21 * 0) + i)) hI (D1 0)  er2) rfl dX5_crash_16 rfl (Nat.le_of_ble_eq_true rfl) (xE Z.2.1 Z.2.2 ad D4 sav old hsz cs len g) (by rw [eD4]; exact (xE_up 0 (by decide))) ?_
  obtain ⟨r5, D6, old7, hsz8, er5, h⟩ := gb4 h
  refine g_callWi (rest := []) C gX5_crash_X5_recorded rfl ok_X5_recorded ⟨by decide, by decide⟩ ⟨rfl, rfl⟩ 168 (by decide) rfl rfl (fun hI => cn_X5_recorded X.2.1 Z ad hI D4 sav old hsz cs len g r2 er5) rfl dX5_crash_19 rfl (Nat.le_of_ble_eq_true rfl) ?_
  obtain ⟨rfl, rfl, rfl, rfl⟩ := gs4 h
  exact g_iret C e dX5_crash_22
abbrev rm_X5_mend : Room := ({ frames := 5, cells := 0, slots := 0, locals := 107 } : Room)
def f_X5_mend (D : Nat → Nat → Nat → Int32) (sav : Int32) (old : Int32) (hsz : Int32) (cs : Nat → Int32) (len : Int32) (g : Nat → Int32) : Option (Int32 × (Nat → Nat → Nat → Int32) × Int32 × Int32) := glet (dcp D 1 0) (fun D1 => gbb2 (f_X0_mendAll (D1 0)) (fun r2 w3 => glet (va_up D1 0 w3) (fun D4 => gbb4 (f_X5_recorded D4 sav old hsz cs len g r2) (fun r5 D6 old7 hsz8 => some (r5, D6, old7, hsz8)))))
set_option maxRecDepth 20000 in
theorem in_X5_mend : ∀ w ∈ wsX50, w ∈ wsX5_mend := by decide +kernel
set_option maxRecDepth 20000 in
theorem fl_X5_mend_10 : Cond.fieldLink RX5 10 (TX5 0).1 (TX5 0).2.1 (TX5 0).2.2.1 ∈ wsX5_mend := by decide +kernel
set_option maxRecDepth 20000 in
theorem fl_X5_mend_16 : Cond.fieldLink RX5 16 (TX5 1).1 (TX5 1).2.1 (TX5 1).2.2.1 ∈ wsX5_mend := by decide +kernel
set_option maxHeartbeats 4000000 in
set_option maxRecDepth 100000 in
theorem cn_X5_mend (l : Launch) (Z : gZ) (ad : Nat → Nat) (hI : gInj 175 ad) (D : Nat → Nat → Nat → Int32) (sav : Int32) (old : Int32) (hsz : Int32) (cs : Nat → Int32) (len : Int32) (g : Nat → Int32) {r : Int32} {D' : Nat → Nat → Nat → Int32} {old' : Int32} {hsz' : Int32} (h : f_X5_mend D sav old hsz cs len g = some (r, D', old', hsz')) : gI l yX5_mend wsX5_mend rm_X5_mend Z 175 ad [.ref (ad 168)] (xE Z.2.1 Z.2.2 ad D sav old hsz cs len g) r (xE Z.2.1 Z.2.2 ad D' sav old' hsz' cs len g) := by
  refine g_entryI (cc := cX5_mend) (maxL := 1) (by decide +kernel) rfl hI (Nat.le_of_ble_eq_true rfl) (fun X C e => ?_)
  unfold f_X5_mend at h
  show GG X Z 1 175 ad (xE Z.2.1 Z.2.2 ad D sav old hsz cs len g) 0 [(0, .ref (ad 168))] []
  refine g_aload_n C dX5_mend_0 0 rfl ?_
  refine g_getf (v := .ref (ad (21 * 1))) C 168 (by decide) rfl rfl in_X5_mend 1 (by decide) fl_X5_mend_16 rfl dX5_mend_1 ?_
  refine g_aload_n C dX5_mend_4 0 rfl ?_
  refine g_getf (v := .ref (ad (21 * 0))) C 168 (by decide) rfl rfl in_X5_mend 0 (by decide) fl_X5_mend_10 rfl dX5_mend_5 ?_
  obtain ⟨D1, eD1, h⟩ := gl h
  refine g_callWv (rest := []) (E2 := (xE Z.2.1 Z.2.2 ad D1 sav old hsz cs len g)) (rm' := rm_X0_copyFrom) C gX5_mend_X0_copyFrom rfl ok_X0_copyFrom ⟨by decide, by decide⟩ ⟨rfl, rfl⟩ (21 * 1) (by decide) (xE_rec 1 (by decide)) rfl (fun hI => by rw [eD1]; exact cn_X0_copyFrom X.2.1 Z ad hI D sav old hsz cs len g 1 0 (by decide) (by decide) (by decide)) rfl dX5_mend_8 rfl (Nat.le_of_ble_eq_true rfl) ?_
  refine g_aload_n C dX5_mend_11 0 rfl ?_
  refine g_aload_n C dX5_mend_12 0 rfl ?_
  refine g_getf (v := .ref (ad (21 * 0))) C 168 (by decide) rfl rfl in_X5_mend 0 (by decide) fl_X5_mend_10 rfl dX5_mend_13 ?_
  obtain ⟨r2, w3, er2, h⟩ := gb2 h
  obtain ⟨D4, eD4, h⟩ := gl h
  refine g_callVi (rest := [.ref (ad 168)]) C gX5_mend_X0_mendAll rfl ok_X0_mendAll ⟨by decide, by decide⟩ ⟨rfl, rfl⟩ (21 * 0) 21 (by decide) (adc := fun i => ad ((21 * 0) + i)) (fun _ _ => rfl) (xE_dsk 0 (by decide)) 0 (by decide) rfl rfl (fun hI => cn_X0_mendAll X.2.1 Z (fun i => ad ((21 * 0) + i)) hI (D1 0)  er2) rfl dX5_mend_16 rfl (Nat.le_of_ble_eq_true rfl) (xE Z.2.1 Z.2.2 ad D4 sav old hsz cs len g) (by rw [eD4]; exact (xE_up 0 (by decide))) ?_
  obtain ⟨r5, D6, old7, hsz8, er5, h⟩ := gb4 h
  refine g_callWi (rest := []) C gX5_mend_X5_recorded rfl ok_X5_recorded ⟨by decide, by decide⟩ ⟨rfl, rfl⟩ 168 (by decide) rfl rfl (fun hI => cn_X5_recorded X.2.1 Z ad hI D4 sav old hsz cs len g r2 er5) rfl dX5_mend_19 rfl (Nat.le_of_ble_eq_true rfl) ?_
  obtain ⟨rfl, rfl, rfl, rfl⟩ := gs4 h
  exact g_iret C e dX5_mend_22
abbrev rm_X5_set : Room := ({ frames := 5, cells := 0, slots := 0, locals := 107 } : Room)
def f_X5_set (D : Nat → Nat → Nat → Int32) (sav : Int32) (old : Int32) (hsz : Int32) (cs : Nat → Int32) (len : Int32) (g : Nat → Int32) (v1 : Int32) (v2 : Int32) : Option (Int32 × (Nat → Nat → Nat → Int32) × Int32 × Int32) := glet (dcp D 1 0) (fun D1 => gbb2 (f_X0_changeSetting (D1 0) v1 v2) (fun r2 w3 => glet (va_up D1 0 w3) (fun D4 => gbb4 (f_X5_recorded D4 sav old hsz cs len g r2) (fun r5 D6 old7 hsz8 => some (r5, D6, old7, hsz8)))))
set_option maxRecDepth 20000 in
theorem in_X5_set : ∀ w ∈ wsX50, w ∈ wsX5_set := by decide +kernel
set_option maxRecDepth 20000 in
theorem fl_X5_set_10 : Cond.fieldLink RX5 10 (TX5 0).1 (TX5 0).2.1 (TX5 0).2.2.1 ∈ wsX5_set := by decide +kernel
set_option maxRecDepth 20000 in
theorem fl_X5_set_16 : Cond.fieldLink RX5 16 (TX5 1).1 (TX5 1).2.1 (TX5 1).2.2.1 ∈ wsX5_set := by decide +kernel
set_option maxHeartbeats 4000000 in
set_option maxRecDepth 100000 in
theorem cn_X5_set (l : Launch) (Z : gZ) (ad : Nat → Nat) (hI : gInj 175 ad) (D : Nat → Nat → Nat → Int32) (sav : Int32) (old : Int32) (hsz : Int32) (cs : Nat → Int32) (len : Int32) (g : Nat → Int32) (v1 : Int32) (v2 : Int32) {r : Int32} {D' : Nat → Nat → Nat → Int32} {old' : Int32} {hsz' : Int32} (h : f_X5_set D sav old hsz cs len g v1 v2 = some (r, D', old', hsz')) : gI l yX5_set wsX5_set rm_X5_set Z 175 ad [.ref (ad 168), .int v1, .int v2] (xE Z.2.1 Z.2.2 ad D sav old hsz cs len g) r (xE Z.2.1 Z.2.2 ad D' sav old' hsz' cs len g) := by
  refine g_entryI (cc := cX5_set) (maxL := 3) (by decide +kernel) rfl hI (Nat.le_of_ble_eq_true rfl) (fun X C e => ?_)
  unfold f_X5_set at h
  show GG X Z 3 175 ad (xE Z.2.1 Z.2.2 ad D sav old hsz cs len g) 0 [(0, .ref (ad 168)), (1, .int v1), (2, .int v2)] []
  refine g_aload_n C dX5_set_0 0 rfl ?_
  refine g_getf (v := .ref (ad (21 * 1))) C 168 (by decide) rfl rfl in_X5_set 1 (by decide) fl_X5_set_16 rfl dX5_set_1 ?_
  refine g_aload_n C dX5_set_4 0 rfl ?_
  refine g_getf (v := .ref (ad (21 * 0))) C 168 (by decide) rfl rfl in_X5_set 0 (by decide) fl_X5_set_10 rfl dX5_set_5 ?_
  obtain ⟨D1, eD1, h⟩ := gl h
  refine g_callWv (rest := []) (E2 := (xE Z.2.1 Z.2.2 ad D1 sav old hsz cs len g)) (rm' := rm_X0_copyFrom) C gX5_set_X0_copyFrom rfl ok_X0_copyFrom ⟨by decide, by decide⟩ ⟨rfl, rfl⟩ (21 * 1) (by decide) (xE_rec 1 (by decide)) rfl (fun hI => by rw [eD1]; exact cn_X0_copyFrom X.2.1 Z ad hI D sav old hsz cs len g 1 0 (by decide) (by decide) (by decide)) rfl dX5_set_8 rfl (Nat.le_of_ble_eq_true rfl) ?_
  refine g_aload_n C dX5_set_11 0 rfl ?_
  refine g_aload_n C dX5_set_12 0 rfl ?_
  refine g_getf (v := .ref (ad (21 * 0))) C 168 (by decide) rfl rfl in_X5_set 0 (by decide) fl_X5_set_10 rfl dX5_set_13 ?_
  refine g_iload_n C dX5_set_16 1 rfl ?_
  refine g_iload_n C dX5_set_17 2 rfl ?_
  obtain ⟨r2, w3, er2, h⟩ := gb2 h
  obtain ⟨D4, eD4, h⟩ := gl h
  refine g_callVi (rest := [.ref (ad 168)]) C gX5_set_X0_changeSetting rfl ok_X0_changeSetting ⟨by decide, by decide⟩ ⟨rfl, rfl⟩ (21 * 0) 21 (by decide) (adc := fun i => ad ((21 * 0) + i)) (fun _ _ => rfl) (xE_dsk 0 (by decide)) 0 (by decide) rfl rfl (fun hI => cn_X0_changeSetting X.2.1 Z (fun i => ad ((21 * 0) + i)) hI (D1 0) v1 v2 er2) rfl dX5_set_18 rfl (Nat.le_of_ble_eq_true rfl) (xE Z.2.1 Z.2.2 ad D4 sav old hsz cs len g) (by rw [eD4]; exact (xE_up 0 (by decide))) ?_
  obtain ⟨r5, D6, old7, hsz8, er5, h⟩ := gb4 h
  refine g_callWi (rest := []) C gX5_set_X5_recorded rfl ok_X5_recorded ⟨by decide, by decide⟩ ⟨rfl, rfl⟩ 168 (by decide) rfl rfl (fun hI => cn_X5_recorded X.2.1 Z ad hI D4 sav old hsz cs len g r2 er5) rfl dX5_set_21 rfl (Nat.le_of_ble_eq_true rfl) ?_
  obtain ⟨rfl, rfl, rfl, rfl⟩ := gs4 h
  exact g_iret C e dX5_set_24
abbrev rm_X5_undo : Room := ({ frames := 4, cells := 0, slots := 0, locals := 86 } : Room)
def f_X5_undo (D : Nat → Nat → Nat → Int32) (sav : Int32) (old : Int32) (hsz : Int32) (cs : Nat → Int32) (len : Int32) (g : Nat → Int32) : Option (Int32 × (Nat → Nat → Nat → Int32) × Int32) := gbb3 (f_X1_takeLatest D sav old hsz cs len g 0) (fun r1 D2 hsz3 => if r1 = 0 then some ((-5), D2, hsz3) else gb (f_X1_size D2 sav old hsz3 cs len g) (fun r5 => some (r5, D2, hsz3)))
set_option maxRecDepth 20000 in
theorem in_X5_undo : ∀ w ∈ wsX50, w ∈ wsX5_undo := by decide +kernel
set_option maxRecDepth 20000 in
theorem fl_X5_undo_29 : Cond.fieldLink RX5 29 (TX5 4).1 (TX5 4).2.1 (TX5 4).2.2.1 ∈ wsX5_undo := by decide +kernel
set_option maxRecDepth 20000 in
theorem fl_X5_undo_10 : Cond.fieldLink RX5 10 (TX5 0).1 (TX5 0).2.1 (TX5 0).2.2.1 ∈ wsX5_undo := by decide +kernel
set_option maxHeartbeats 4000000 in
set_option maxRecDepth 100000 in
theorem cn_X5_undo (l : Launch) (Z : gZ) (ad : Nat → Nat) (hI : gInj 175 ad) (D : Nat → Nat → Nat → Int32) (sav : Int32) (old : Int32) (hsz : Int32) (cs : Nat → Int32) (len : Int32) (g : Nat → Int32) {r : Int32} {D' : Nat → Nat → Nat → Int32} {hsz' : Int32} (h : f_X5_undo D sav old hsz cs len g = some (r, D', hsz')) : gI l yX5_undo wsX5_undo rm_X5_undo Z 175 ad [.ref (ad 168)] (xE Z.2.1 Z.2.2 ad D sav old hsz cs len g) r (xE Z.2.1 Z.2.2 ad D' sav old hsz' cs len g) := by
  refine g_entryI (cc := cX5_undo) (maxL := 1) (by decide +kernel) rfl hI (Nat.le_of_ble_eq_true rfl) (fun X C e => ?_)
  unfold f_X5_undo at h
  show GG X Z 1 175 ad (xE Z.2.1 Z.2.2 ad D sav old hsz cs len g) 0 [(0, .ref (ad 168))] []
  refine g_aload_n C dX5_undo_0 0 rfl ?_
  refine g_getf (v := .ref (ad 169)) C 168 (by decide) rfl rfl in_X5_undo 4 (by decide) fl_X5_undo_29 rfl dX5_undo_1 ?_
  refine g_aload_n C dX5_undo_4 0 rfl ?_
  refine g_getf (v := .ref (ad (21 * 0))) C 168 (by decide) rfl rfl in_X5_undo 0 (by decide) fl_X5_undo_10 rfl dX5_undo_5 ?_
  obtain ⟨r1, D2, hsz3, er1, h⟩ := gb3 h
  refine g_callWi (rest := []) C gX5_undo_X1_takeLatest rfl ok_X1_takeLatest ⟨by decide, by decide⟩ ⟨rfl, rfl⟩ 169 (by decide) rfl rfl (fun hI => cn_X1_takeLatest X.2.1 Z ad hI D sav old hsz cs len g 0 (by decide) er1) rfl dX5_undo_8 rfl (Nat.le_of_ble_eq_true rfl) ?_
  refine g_if_eq (tgt := 24) C dX5_undo_11 (by decide) (fun c4 => ?_) (fun c4 => ?_)
  · replace h := gi_pos c4 h
    refine g_bipush (v := (-5)) C dX5_undo_24 (by decide) ?_
    obtain ⟨rfl, rfl, rfl⟩ := gs3 h
    exact g_iret C e dX5_undo_26
  · replace h := gi_neg c4 h
    refine g_aload_n C dX5_undo_14 0 rfl ?_
    refine g_getf (v := .ref (ad 169)) C 168 (by decide) rfl rfl in_X5_undo 4 (by decide) fl_X5_undo_29 rfl dX5_undo_15 ?_
    obtain ⟨r5, er5, h⟩ := gb1 h
    refine g_callWi (rest := []) C gX5_undo_X1_size rfl ok_X1_size ⟨by decide, by decide⟩ ⟨rfl, rfl⟩ 169 (by decide) rfl rfl (fun hI => cn_X1_size X.2.1 Z ad hI D2 sav old hsz3 cs len g  er5) rfl dX5_undo_18 rfl (Nat.le_of_ble_eq_true rfl) ?_
    refine g_goto (tgt := 26) C dX5_undo_21 (by decide) ?_
    obtain ⟨rfl, rfl, rfl⟩ := gs3 h
    exact g_iret C e dX5_undo_26
abbrev rm_X5_block : Room := ({ frames := 2, cells := 0, slots := 0, locals := 43 } : Room)
def f_X5_block (D : Nat → Nat → Nat → Int32) (sav : Int32) (old : Int32) (hsz : Int32) (cs : Nat → Int32) (len : Int32) (g : Nat → Int32) (v1 : Int32) (v2 : Int32) : Option Int32 := if v1 < 0 then some (-1) else if v1 < 64 then if v2 = 0 then gb (f_X0_ownerOf (D 0) v1) (fun r4 => some r4) else if v2 = 1 then gb (f_X0_useOf (D 0) v1) (fun r6 => some r6) else if v2 = 2 then gb (f_X0_placeOf (D 0) v1) (fun r8 => some r8) else if v2 = 3 then gb (f_X0_stampOf (D 0) v1) (fun r10 => some r10) else some (-2) else some (-1)
set_option maxRecDepth 20000 in
theorem in_X5_block : ∀ w ∈ wsX50, w ∈ wsX5_block := by decide +kernel
set_option maxRecDepth 20000 in
theorem fl_X5_block_10 : Cond.fieldLink RX5 10 (TX5 0).1 (TX5 0).2.1 (TX5 0).2.2.1 ∈ wsX5_block := by decide +kernel
set_option maxHeartbeats 4000000 in
set_option maxRecDepth 100000 in
theorem cn_X5_block (l : Launch) (Z : gZ) (ad : Nat → Nat) (hI : gInj 175 ad) (D : Nat → Nat → Nat → Int32) (sav : Int32) (old : Int32) (hsz : Int32) (cs : Nat → Int32) (len : Int32) (g : Nat → Int32) (v1 : Int32) (v2 : Int32) {r : Int32} (h : f_X5_block D sav old hsz cs len g v1 v2 = some r) : gI l yX5_block wsX5_block rm_X5_block Z 175 ad [.ref (ad 168), .int v1, .int v2] (xE Z.2.1 Z.2.2 ad D sav old hsz cs len g) r (xE Z.2.1 Z.2.2 ad D sav old hsz cs len g) := by
  refine g_entryI (cc := cX5_block) (maxL := 3) (by decide +kernel) rfl hI (Nat.le_of_ble_eq_true rfl) (fun X C e => ?_)
  unfold f_X5_block at h
  show GG X Z 3 175 ad (xE Z.2.1 Z.2.2 ad D sav old hsz cs len g) 0 [(0, .ref (ad 168)), (1, .int v1), (2, .int v2)] []
  refine g_iload_n C dX5_block_0 1 rfl ?_
  refine g_if_lt (tgt := 10) C dX5_block_1 (by decide) (fun c1 => ?_) (fun c1 => ?_)
  · replace h := gi_pos c1 h
    refine g_iconst (v := (-1)) C dX5_block_10 (by decide) ?_
    obtain rfl := gs1 h
    exact g_iret C e dX5_block_11
  · replace h := gi_neg c1 h
    refine g_iload_n C dX5_block_4 1 rfl ?_
    refine g_bipush (v := 64) C dX5_block_5 (by decide) ?_
    refine g_icmp_lt (tgt := 12) C dX5_block_7 (by decide) (fun c2 => ?_) (fun c2 => ?_)
    · replace h := gi_pos c2 h
      refine g_iload_n C dX5_block_12 2 rfl ?_
      by_cases c3 : v2 = 0
      · replace h := gi_pos c3 h
        refine g_tableIn (tgt := 44) (off := 31) C 0 c3 dX5_block_13 (by decide) (by decide) (by decide) (by decide) ?_
        refine g_aload_n C dX5_block_44 0 rfl ?_
        refine g_getf (v := .ref (ad (21 * 0))) C 168 (by decide) rfl rfl in_X5_block 0 (by decide) fl_X5_block_10 rfl dX5_block_45 ?_
        refine g_iload_n C dX5_block_48 1 rfl ?_
        obtain ⟨r4, er4, h⟩ := gb1 h
        refine g_callVi (rest := []) C gX5_block_X0_ownerOf rfl ok_X0_ownerOf ⟨by decide, by decide⟩ ⟨rfl, rfl⟩ (21 * 0) 21 (by decide) (adc := fun i => ad ((21 * 0) + i)) (fun _ _ => rfl) (xE_dsk 0 (by decide)) 0 (by decide) rfl rfl (fun hI => cn_X0_ownerOf X.2.1 Z (fun i => ad ((21 * 0) + i)) hI (D 0) v1 er4) rfl dX5_block_49 rfl (Nat.le_of_ble_eq_true rfl) (xE Z.2.1 Z.2.2 ad D sav old hsz cs len g) (xE_id 0 (by decide)) ?_
        obtain rfl := gs1 h
        exact g_iret C e dX5_block_52
      · replace h := gi_neg c3 h
        by_cases c5 : v2 = 1
        · replace h := gi_pos c5 h
          refine g_tableIn (tgt := 53) (off := 40) C 1 c5 dX5_block_13 (by decide) (by decide) (by decide) (by decide) ?_
          refine g_aload_n C dX5_block_53 0 rfl ?_
          refine g_getf (v := .ref (ad (21 * 0))) C 168 (by decide) rfl rfl in_X5_block 0 (by decide) fl_X5_block_10 rfl dX5_block_54 ?_
          refine g_iload_n C dX5_block_57 1 rfl ?_
          obtain ⟨r6, er6, h⟩ := gb1 h
          refine g_callVi (rest := []) C gX5_block_X0_useOf rfl ok_X0_useOf ⟨by decide, by decide⟩ ⟨rfl, rfl⟩ (21 * 0) 21 (by decide) (adc := fun i => ad ((21 * 0) + i)) (fun _ _ => rfl) (xE_dsk 0 (by decide)) 0 (by decide) rfl rfl (fun hI => cn_X0_useOf X.2.1 Z (fun i => ad ((21 * 0) + i)) hI (D 0) v1 er6) rfl dX5_block_58 rfl (Nat.le_of_ble_eq_true rfl) (xE Z.2.1 Z.2.2 ad D sav old hsz cs len g) (xE_id 0 (by decide)) ?_
          obtain rfl := gs1 h
          exact g_iret C e dX5_block_61
        · replace h := gi_neg c5 h
          by_cases c7 : v2 = 2
          · replace h := gi_pos c7 h
            refine g_tableIn (tgt := 62) (off := 49) C 2 c7 dX5_block_13 (by decide) (by decide) (by decide) (by decide) ?_
            refine g_aload_n C dX5_block_62 0 rfl ?_
            refine g_getf (v := .ref (ad (21 * 0))) C 168 (by decide) rfl rfl in_X5_block 0 (by decide) fl_X5_block_10 rfl dX5_block_63 ?_
            refine g_iload_n C dX5_block_66 1 rfl ?_
            obtain ⟨r8, er8, h⟩ := gb1 h
            refine g_callVi (rest := []) C gX5_block_X0_placeOf rfl ok_X0_placeOf ⟨by decide, by decide⟩ ⟨rfl, rfl⟩ (21 * 0) 21 (by decide) (adc := fun i => ad ((21 * 0) + i)) (fun _ _ => rfl) (xE_dsk 0 (by decide)) 0 (by decide) rfl rfl (fun hI => cn_X0_placeOf X.2.1 Z (fun i => ad ((21 * 0) + i)) hI (D 0) v1 er8) rfl dX5_block_67 rfl (Nat.le_of_ble_eq_true rfl) (xE Z.2.1 Z.2.2 ad D sav old hsz cs len g) (xE_id 0 (by decide)) ?_
            obtain rfl := gs1 h
            exact g_iret C e dX5_block_70
          · replace h := gi_neg c7 h
            by_cases c9 : v2 = 3
            · replace h := gi_pos c9 h
              refine g_tableIn (tgt := 71) (off := 58) C 3 c9 dX5_block_13 (by decide) (by decide) (by decide) (by decide) ?_
              refine g_aload_n C dX5_block_71 0 rfl ?_
              refine g_getf (v := .ref (ad (21 * 0))) C 168 (by decide) rfl rfl in_X5_block 0 (by decide) fl_X5_block_10 rfl dX5_block_72 ?_
              refine g_iload_n C dX5_block_75 1 rfl ?_
              obtain ⟨r10, er10, h⟩ := gb1 h
              refine g_callVi (rest := []) C gX5_block_X0_stampOf rfl ok_X0_stampOf ⟨by decide, by decide⟩ ⟨rfl, rfl⟩ (21 * 0) 21 (by decide) (adc := fun i => ad ((21 * 0) + i)) (fun _ _ => rfl) (xE_dsk 0 (by decide)) 0 (by decide) rfl rfl (fun hI => cn_X0_stampOf X.2.1 Z (fun i => ad ((21 * 0) + i)) hI (D 0) v1 er10) rfl dX5_block_76 rfl (Nat.le_of_ble_eq_true rfl) (xE Z.2.1 Z.2.2 ad D sav old hsz cs len g) (xE_id 0 (by decide)) ?_
              obtain rfl := gs1 h
              exact g_iret C e dX5_block_79
            · replace h := gi_neg c9 h
              refine g_tableOut (tgt := 80) C dX5_block_13 (by have nc3 := g_ne (a := 0) c3 (by decide); have nc5 := g_ne (a := 1) c5 (by decide); have nc7 := g_ne (a := 2) c7 (by decide); have nc9 := g_ne (a := 3) c9 (by decide); omega) (by decide) ?_
              refine g_bipush (v := (-2)) C dX5_block_80 (by decide) ?_
              obtain rfl := gs1 h
              exact g_iret C e dX5_block_82
    · replace h := gi_neg c2 h
      refine g_iconst (v := (-1)) C dX5_block_10 (by decide) ?_
      obtain rfl := gs1 h
      exact g_iret C e dX5_block_11
abbrev rm_X5_file : Room := ({ frames := 3, cells := 0, slots := 0, locals := 66 } : Room)
def f_X5_file (D : Nat → Nat → Nat → Int32) (sav : Int32) (old : Int32) (hsz : Int32) (cs : Nat → Int32) (len : Int32) (g : Nat → Int32) (v1 : Int32) (v2 : Int32) : Option Int32 := gb (f_X0_isFile (D 0) v1) (fun r1 => if r1 = 0 then some (-1) else if v2 = 0 then gb (f_X0_sizeOf (D 0) v1) (fun r4 => some r4) else if v2 = 1 then gb (f_X0_lentOf (D 0) v1) (fun r6 => some r6) else if v2 = 2 then gb (f_X0_safeSizeOf (D 0) v1) (fun r8 => some r8) else if v2 = 3 then gb (f_X0_isOpen (D 0) v1) (fun r10 => if r10 = 0 then some 0 else some 1) else if v2 = 4 then gb (f_X0_extentsOf (D 0) v1) (fun r13 => some r13) else if v2 = 5 then gb (f_X0_lendOf (D 0) v1) (fun r15 => some r15) else some (-2))
set_option maxRecDepth 20000 in
theorem in_X5_file : ∀ w ∈ wsX50, w ∈ wsX5_file := by decide +kernel
set_option maxRecDepth 20000 in
theorem fl_X5_file_10 : Cond.fieldLink RX5 10 (TX5 0).1 (TX5 0).2.1 (TX5 0).2.2.1 ∈ wsX5_file := by decide +kernel
set_option maxHeartbeats 4000000 in
set_option maxRecDepth 100000 in
theorem cn_X5_file (l : Launch) (Z : gZ) (ad : Nat → Nat) (hI : gInj 175 ad) (D : Nat → Nat → Nat → Int32) (sav : Int32) (old : Int32) (hsz : Int32) (cs : Nat → Int32) (len : Int32) (g : Nat → Int32) (v1 : Int32) (v2 : Int32) {r : Int32} (h : f_X5_file D sav old hsz cs len g v1 v2 = some r) : gI l yX5_file wsX5_file rm_X5_file Z 175 ad [.ref (ad 168), .int v1, .int v2] (xE Z.2.1 Z.2.2 ad D sav old hsz cs len g) r (xE Z.2.1 Z.2.2 ad D sav old hsz cs len g) := by
  refine g_entryI (cc := cX5_file) (maxL := 3) (by decide +kernel) rfl hI (Nat.le_of_ble_eq_true rfl) (fun X C e => ?_)
  unfold f_X5_file at h
  show GG X Z 3 175 ad (xE Z.2.1 Z.2.2 ad D sav old hsz cs len g) 0 [(0, .ref (ad 168)), (1, .int v1), (2, .int v2)] []
  refine g_aload_n C dX5_file_0 0 rfl ?_
  refine g_getf (v := .ref (ad (21 * 0))) C 168 (by decide) rfl rfl in_X5_file 0 (by decide) fl_X5_file_10 rfl dX5_file_1 ?_
  refine g_iload_n C dX5_file_4 1 rfl ?_
  obtain ⟨r1, er1, h⟩ := gb1 h
  refine g_callVi (rest := []) C gX5_file_X0_isFile rfl ok_X0_isFile ⟨by decide, by decide⟩ ⟨rfl, rfl⟩ (21 * 0) 21 (by decide) (adc := fun i => ad ((21 * 0) + i)) (fun _ _ => rfl) (xE_dsk 0 (by decide)) 0 (by decide) rfl rfl (fun hI => cn_X0_isFile X.2.1 Z (fun i => ad ((21 * 0) + i)) hI (D 0) v1 er1) rfl dX5_file_5 rfl (Nat.le_of_ble_eq_true rfl) (xE Z.2.1 Z.2.2 ad D sav old hsz cs len g) (xE_id 0 (by decide)) ?_
  refine g_if_ne (tgt := 13) C dX5_file_8 (by decide) (fun c2 => ?_) (fun c2 => ?_)
  · replace h := gi_neg c2 h
    refine g_iload_n C dX5_file_13 2 rfl ?_
    by_cases c3 : v2 = 0
    · replace h := gi_pos c3 h
      refine g_tableIn (tgt := 52) (off := 38) C 0 c3 dX5_file_14 (by decide) (by decide) (by decide) (by decide) ?_
      refine g_aload_n C dX5_file_52 0 rfl ?_
      refine g_getf (v := .ref (ad (21 * 0))) C 168 (by decide) rfl rfl in_X5_file 0 (by decide) fl_X5_file_10 rfl dX5_file_53 ?_
      refine g_iload_n C dX5_file_56 1 rfl ?_
      obtain ⟨r4, er4, h⟩ := gb1 h
      refine g_callVi (rest := []) C gX5_file_X0_sizeOf rfl ok_X0_sizeOf ⟨by decide, by decide⟩ ⟨rfl, rfl⟩ (21 * 0) 21 (by decide) (adc := fun i => ad ((21 * 0) + i)) (fun _ _ => rfl) (xE_dsk 0 (by decide)) 0 (by decide) rfl rfl (fun hI => cn_X0_sizeOf X.2.1 Z (fun i => ad ((21 * 0) + i)) hI (D 0) v1 er4) rfl dX5_file_57 rfl (Nat.le_of_ble_eq_true rfl) (xE Z.2.1 Z.2.2 ad D sav old hsz cs len g) (xE_id 0 (by decide)) ?_
      obtain rfl := gs1 h
      exact g_iret C e dX5_file_60
    · replace h := gi_neg c3 h
      by_cases c5 : v2 = 1
      · replace h := gi_pos c5 h
        refine g_tableIn (tgt := 61) (off := 47) C 1 c5 dX5_file_14 (by decide) (by decide) (by decide) (by decide) ?_
        refine g_aload_n C dX5_file_61 0 rfl ?_
        refine g_getf (v := .ref (ad (21 * 0))) C 168 (by decide) rfl rfl in_X5_file 0 (by decide) fl_X5_file_10 rfl dX5_file_62 ?_
        refine g_iload_n C dX5_file_65 1 rfl ?_
        obtain ⟨r6, er6, h⟩ := gb1 h
        refine g_callVi (rest := []) C gX5_file_X0_lentOf rfl ok_X0_lentOf ⟨by decide, by decide⟩ ⟨rfl, rfl⟩ (21 * 0) 21 (by decide) (adc := fun i => ad ((21 * 0) + i)) (fun _ _ => rfl) (xE_dsk 0 (by decide)) 0 (by decide) rfl rfl (fun hI => cn_X0_lentOf X.2.1 Z (fun i => ad ((21 * 0) + i)) hI (D 0) v1 er6) rfl dX5_file_66 rfl (Nat.le_of_ble_eq_true rfl) (xE Z.2.1 Z.2.2 ad D sav old hsz cs len g) (xE_id 0 (by decide)) ?_
        obtain rfl := gs1 h
        exact g_iret C e dX5_file_69
      · replace h := gi_neg c5 h
        by_cases c7 : v2 = 2
        · replace h := gi_pos c7 h
          refine g_tableIn (tgt := 70) (off := 56) C 2 c7 dX5_file_14 (by decide) (by decide) (by decide) (by decide) ?_
          refine g_aload_n C dX5_file_70 0 rfl ?_
          refine g_getf (v := .ref (ad (21 * 0))) C 168 (by decide) rfl rfl in_X5_file 0 (by decide) fl_X5_file_10 rfl dX5_file_71 ?_
          refine g_iload_n C dX5_file_74 1 rfl ?_
          obtain ⟨r8, er8, h⟩ := gb1 h
          refine g_callVi (rest := []) C gX5_file_X0_safeSizeOf rfl ok_X0_safeSizeOf ⟨by decide, by decide⟩ ⟨rfl, rfl⟩ (21 * 0) 21 (by decide) (adc := fun i => ad ((21 * 0) + i)) (fun _ _ => rfl) (xE_dsk 0 (by decide)) 0 (by decide) rfl rfl (fun hI => cn_X0_safeSizeOf X.2.1 Z (fun i => ad ((21 * 0) + i)) hI (D 0) v1 er8) rfl dX5_file_75 rfl (Nat.le_of_ble_eq_true rfl) (xE Z.2.1 Z.2.2 ad D sav old hsz cs len g) (xE_id 0 (by decide)) ?_
          obtain rfl := gs1 h
          exact g_iret C e dX5_file_78
        · replace h := gi_neg c7 h
          by_cases c9 : v2 = 3
          · replace h := gi_pos c9 h
            refine g_tableIn (tgt := 79) (off := 65) C 3 c9 dX5_file_14 (by decide) (by decide) (by decide) (by decide) ?_
            refine g_aload_n C dX5_file_79 0 rfl ?_
            refine g_getf (v := .ref (ad (21 * 0))) C 168 (by decide) rfl rfl in_X5_file 0 (by decide) fl_X5_file_10 rfl dX5_file_80 ?_
            refine g_iload_n C dX5_file_83 1 rfl ?_
            obtain ⟨r10, er10, h⟩ := gb1 h
            refine g_callVi (rest := []) C gX5_file_X0_isOpen rfl ok_X0_isOpen ⟨by decide, by decide⟩ ⟨rfl, rfl⟩ (21 * 0) 21 (by decide) (adc := fun i => ad ((21 * 0) + i)) (fun _ _ => rfl) (xE_dsk 0 (by decide)) 0 (by decide) rfl rfl (fun hI => cn_X0_isOpen X.2.1 Z (fun i => ad ((21 * 0) + i)) hI (D 0) v1 er10) rfl dX5_file_84 rfl (Nat.le_of_ble_eq_true rfl) (xE Z.2.1 Z.2.2 ad D sav old hsz cs len g) (xE_id 0 (by decide)) ?_
            refine g_if_eq (tgt := 94) C dX5_file_87 (by decide) (fun c11 => ?_) (fun c11 => ?_)
            · replace h := gi_pos c11 h
              refine g_iconst (v := 0) C dX5_file_94 (by decide) ?_
              obtain rfl := gs1 h
              exact g_iret C e dX5_file_95
            · replace h := gi_neg c11 h
              refine g_iconst (v := 1) C dX5_file_90 (by decide) ?_
              refine g_goto (tgt := 95) C dX5_file_91 (by decide) ?_
              obtain rfl := gs1 h
              exact g_iret C e dX5_file_95
          · replace h := gi_neg c9 h
            by_cases c12 : v2 = 4
            · replace h := gi_pos c12 h
              refine g_tableIn (tgt := 96) (off := 82) C 4 c12 dX5_file_14 (by decide) (by decide) (by decide) (by decide) ?_
              refine g_aload_n C dX5_file_96 0 rfl ?_
              refine g_getf (v := .ref (ad (21 * 0))) C 168 (by decide) rfl rfl in_X5_file 0 (by decide) fl_X5_file_10 rfl dX5_file_97 ?_
              refine g_iload_n C dX5_file_100 1 rfl ?_
              obtain ⟨r13, er13, h⟩ := gb1 h
              refine g_callVi (rest := []) C gX5_file_X0_extentsOf rfl ok_X0_extentsOf ⟨by decide, by decide⟩ ⟨rfl, rfl⟩ (21 * 0) 21 (by decide) (adc := fun i => ad ((21 * 0) + i)) (fun _ _ => rfl) (xE_dsk 0 (by decide)) 0 (by decide) rfl rfl (fun hI => cn_X0_extentsOf X.2.1 Z (fun i => ad ((21 * 0) + i)) hI (D 0) v1 er13) rfl dX5_file_101 rfl (Nat.le_of_ble_eq_true rfl) (xE Z.2.1 Z.2.2 ad D sav old hsz cs len g) (xE_id 0 (by decide)) ?_
              obtain rfl := gs1 h
              exact g_iret C e dX5_file_104
            · replace h := gi_neg c12 h
              by_cases c14 : v2 = 5
              · replace h := gi_pos c14 h
                refine g_tableIn (tgt := 105) (off := 91) C 5 c14 dX5_file_14 (by decide) (by decide) (by decide) (by decide) ?_
                refine g_aload_n C dX5_file_105 0 rfl ?_
                refine g_getf (v := .ref (ad (21 * 0))) C 168 (by decide) rfl rfl in_X5_file 0 (by decide) fl_X5_file_10 rfl dX5_file_106 ?_
                refine g_iload_n C dX5_file_109 1 rfl ?_
                obtain ⟨r15, er15, h⟩ := gb1 h
                refine g_callVi (rest := []) C gX5_file_X0_lendOf rfl ok_X0_lendOf ⟨by decide, by decide⟩ ⟨rfl, rfl⟩ (21 * 0) 21 (by decide) (adc := fun i => ad ((21 * 0) + i)) (fun _ _ => rfl) (xE_dsk 0 (by decide)) 0 (by decide) rfl rfl (fun hI => cn_X0_lendOf X.2.1 Z (fun i => ad ((21 * 0) + i)) hI (D 0) v1 er15) rfl dX5_file_110 rfl (Nat.le_of_ble_eq_true rfl) (xE Z.2.1 Z.2.2 ad D sav old hsz cs len g) (xE_id 0 (by decide)) ?_
                obtain rfl := gs1 h
                exact g_iret C e dX5_file_113
              · replace h := gi_neg c14 h
                refine g_tableOut (tgt := 114) C dX5_file_14 (by have nc3 := g_ne (a := 0) c3 (by decide); have nc5 := g_ne (a := 1) c5 (by decide); have nc7 := g_ne (a := 2) c7 (by decide); have nc9 := g_ne (a := 3) c9 (by decide); have nc12 := g_ne (a := 4) c12 (by decide); have nc14 := g_ne (a := 5) c14 (by decide); omega) (by decide) ?_
                refine g_bipush (v := (-2)) C dX5_file_114 (by decide) ?_
                obtain rfl := gs1 h
                exact g_iret C e dX5_file_116
  · replace h := gi_pos c2 h
    refine g_iconst (v := (-1)) C dX5_file_11 (by decide) ?_
    obtain rfl := gs1 h
    exact g_iret C e dX5_file_12
abbrev rm_X5_extent : Room := ({ frames := 3, cells := 0, slots := 0, locals := 69 } : Room)
def f_X5_extent (D : Nat → Nat → Nat → Int32) (sav : Int32) (old : Int32) (hsz : Int32) (cs : Nat → Int32) (len : Int32) (g : Nat → Int32) (v1 : Int32) (v2 : Int32) (v3 : Int32) : Option Int32 := gb (f_X0_isFile (D 0) v1) (fun r1 => if r1 = 0 then some (-1) else if v2 < 0 then some (-2) else if v3 < 0 then some (-2) else if v3 ≤ 1 then gb (f_X0_placeOfExtent (D 0) v1 v2) (fun r6 => if r6 = (-5) then some (-5) else if v3 = 0 then gb (f_X0_blockAt (D 0) v1 r6) (fun r10 => some r10) else gb (f_X0_extentFrom (D 0) v1 r6) (fun r9 => some r9)) else some (-2))
set_option maxRecDepth 20000 in
theorem in_X5_extent : ∀ w ∈ wsX50, w ∈ wsX5_extent := by decide +kernel
set_option maxRecDepth 20000 in
theorem fl_X5_extent_10 : Cond.fieldLink RX5 10 (TX5 0).1 (TX5 0).2.1 (TX5 0).2.2.1 ∈ wsX5_extent := by decide +kernel
set_option maxHeartbeats 4000000 in
set_option maxRecDepth 100000 in
theorem cn_X5_extent (l : Launch) (Z : gZ) (ad : Nat → Nat) (hI : gInj 175 ad) (D : Nat → Nat → Nat → Int32) (sav : Int32) (old : Int32) (hsz : Int32) (cs : Nat → Int32) (len : Int32) (g : Nat → Int32) (v1 : Int32) (v2 : Int32) (v3 : Int32) {r : Int32} (h : f_X5_extent D sav old hsz cs len g v1 v2 v3 = some r) : gI l yX5_extent wsX5_extent rm_X5_extent Z 175 ad [.ref (ad 168), .int v1, .int v2, .int v3] (xE Z.2.1 Z.2.2 ad D sav old hsz cs len g) r (xE Z.2.1 Z.2.2 ad D sav old hsz cs len g) := by
  refine g_entryI (cc := cX5_extent) (maxL := 5) (by decide +kernel) rfl hI (Nat.le_of_ble_eq_true rfl) (fun X C e => ?_)
  unfold f_X5_extent at h
  show GG X Z 5 175 ad (xE Z.2.1 Z.2.2 ad D sav old hsz cs len g) 0 [(0, .ref (ad 168)), (1, .int v1), (2, .int v2), (3, .int v3)] []
  refine g_aload_n C dX5_extent_0 0 rfl ?_
  refine g_getf (v := .ref (ad (21 * 0))) C 168 (by decide) rfl rfl in_X5_extent 0 (by decide) fl_X5_extent_10 rfl dX5_extent_1 ?_
  refine g_iload_n C dX5_extent_4 1 rfl ?_
  obtain ⟨r1, er1, h⟩ := gb1 h
  refine g_callVi (rest := []) C gX5_extent_X0_isFile rfl ok_X0_isFile ⟨by decide, by decide⟩ ⟨rfl, rfl⟩ (21 * 0) 21 (by decide) (adc := fun i => ad ((21 * 0) + i)) (fun _ _ => rfl) (xE_dsk 0 (by decide)) 0 (by decide) rfl rfl (fun hI => cn_X0_isFile X.2.1 Z (fun i => ad ((21 * 0) + i)) hI (D 0) v1 er1) rfl dX5_extent_5 rfl (Nat.le_of_ble_eq_true rfl) (xE Z.2.1 Z.2.2 ad D sav old hsz cs len g) (xE_id 0 (by decide)) ?_
  refine g_if_ne (tgt := 13) C dX5_extent_8 (by decide) (fun c2 => ?_) (fun c2 => ?_)
  · replace h := gi_neg c2 h
    refine g_iload_n C dX5_extent_13 2 rfl ?_
    refine g_if_lt (tgt := 26) C dX5_extent_14 (by decide) (fun c3 => ?_) (fun c3 => ?_)
    · replace h := gi_pos c3 h
      refine g_bipush (v := (-2)) C dX5_extent_26 (by decide) ?_
      obtain rfl := gs1 h
      exact g_iret C e dX5_extent_28
    · replace h := gi_neg c3 h
      refine g_iload_n C dX5_extent_17 3 rfl ?_
      refine g_if_lt (tgt := 26) C dX5_extent_18 (by decide) (fun c4 => ?_) (fun c4 => ?_)
      · replace h := gi_pos c4 h
        refine g_bipush (v := (-2)) C dX5_extent_26 (by decide) ?_
        obtain rfl := gs1 h
        exact g_iret C e dX5_extent_28
      · replace h := gi_neg c4 h
        refine g_iload_n C dX5_extent_21 3 rfl ?_
        refine g_iconst (v := 1) C dX5_extent_22 (by decide) ?_
        refine g_icmp_le (tgt := 29) C dX5_extent_23 (by decide) (fun c5 => ?_) (fun c5 => ?_)
        · replace h := gi_pos c5 h
          refine g_aload_n C dX5_extent_29 0 rfl ?_
          refine g_getf (v := .ref (ad (21 * 0))) C 168 (by decide) rfl rfl in_X5_extent 0 (by decide) fl_X5_extent_10 rfl dX5_extent_30 ?_
          refine g_iload_n C dX5_extent_33 1 rfl ?_
          refine g_iload_n C dX5_extent_34 2 rfl ?_
          obtain ⟨r6, er6, h⟩ := gb1 h
          refine g_callVi (rest := []) C gX5_extent_X0_placeOfExtent rfl ok_X0_placeOfExtent ⟨by decide, by decide⟩ ⟨rfl, rfl⟩ (21 * 0) 21 (by decide) (adc := fun i => ad ((21 * 0) + i)) (fun _ _ => rfl) (xE_dsk 0 (by decide)) 0 (by decide) rfl rfl (fun hI => cn_X0_placeOfExtent X.2.1 Z (fun i => ad ((21 * 0) + i)) hI (D 0) v1 v2 er6) rfl dX5_extent_35 rfl (Nat.le_of_ble_eq_true rfl) (xE Z.2.1 Z.2.2 ad D sav old hsz cs len g) (xE_id 0 (by decide)) ?_
          refine g_istore C dX5_extent_38 (by decide) [(4, .int r6), (0, .ref (ad 168)), (1, .int v1), (2, .int v2), (3, .int v3)] rfl ?_
          refine g_iload C dX5_extent_40 0 rfl ?_
          refine g_bipush (v := (-5)) C dX5_extent_42 (by decide) ?_
          refine g_icmp_ne (tgt := 50) C dX5_extent_44 (by decide) (fun c7 => ?_) (fun c7 => ?_)
          · replace h := gi_neg c7 h
            refine g_iload_n C dX5_extent_50 4 rfl ?_
            refine g_if_ne (tgt := 67) C dX5_extent_51 (by decide) (fun c8 => ?_) (fun c8 => ?_)
            · replace h := gi_neg c8 h
              refine g_aload_n C dX5_extent_67 1 rfl ?_
              refine g_getf (v := .ref (ad (21 * 0))) C 168 (by decide) rfl rfl in_X5_extent 0 (by decide) fl_X5_extent_10 rfl dX5_extent_68 ?_
              refine g_iload_n C dX5_extent_71 2 rfl ?_
              refine g_iload C dX5_extent_72 0 rfl ?_
              obtain ⟨r9, er9, h⟩ := gb1 h
              refine g_callVi (rest := []) C gX5_extent_X0_extentFrom rfl ok_X0_extentFrom ⟨by decide, by decide⟩ ⟨rfl, rfl⟩ (21 * 0) 21 (by decide) (adc := fun i => ad ((21 * 0) + i)) (fun _ _ => rfl) (xE_dsk 0 (by decide)) 0 (by decide) rfl rfl (fun hI => cn_X0_extentFrom X.2.1 Z (fun i => ad ((21 * 0) + i)) hI (D 0) v1 r6 er9) rfl dX5_extent_74 rfl (Nat.le_of_ble_eq_true rfl) (xE Z.2.1 Z.2.2 ad D sav old hsz cs len g) (xE_id 0 (by decide)) ?_
              obtain rfl := gs1 h
              exact g_iret C e dX5_extent_77
            · replace h := gi_pos c8 h
              refine g_aload_n C dX5_extent_54 1 rfl ?_
              refine g_getf (v := .ref (ad (21 * 0))) C 168 (by decide) rfl rfl in_X5_extent 0 (by decide) fl_X5_extent_10 rfl dX5_extent_55 ?_
              refine g_iload_n C dX5_extent_58 2 rfl ?_
              refine g_iload C dX5_extent_59 0 rfl ?_
              obtain ⟨r10, er10, h⟩ := gb1 h
              refine g_callVi (rest := []) C gX5_extent_X0_blockAt rfl ok_X0_blockAt ⟨by decide, by decide⟩ ⟨rfl, rfl⟩ (21 * 0) 21 (by decide) (adc := fun i => ad ((21 * 0) + i)) (fun _ _ => rfl) (xE_dsk 0 (by decide)) 0 (by decide) rfl rfl (fun hI => cn_X0_blockAt X.2.1 Z (fun i => ad ((21 * 0) + i)) hI (D 0) v1 r6 er10) rfl dX5_extent_61 rfl (Nat.le_of_ble_eq_true rfl) (xE Z.2.1 Z.2.2 ad D sav old hsz cs len g) (xE_id 0 (by decide)) ?_
              refine g_goto (tgt := 77) C dX5_extent_64 (by decide) ?_
              obtain rfl := gs1 h
              exact g_iret C e dX5_extent_77
          · replace h := gi_pos c7 h
            refine g_bipush (v := (-5)) C dX5_extent_47 (by decide) ?_
            obtain rfl := gs1 h
            exact g_iret C e dX5_extent_49
        · replace h := gi_neg c5 h
          refine g_bipush (v := (-2)) C dX5_extent_26 (by decide) ?_
          obtain rfl := gs1 h
          exact g_iret C e dX5_extent_28
  · replace h := gi_pos c2 h
    refine g_iconst (v := (-1)) C dX5_extent_11 (by decide) ?_
    obtain rfl := gs1 h
    exact g_iret C e dX5_extent_12
abbrev rm_X5_run : Room := ({ frames := 3, cells := 0, slots := 0, locals := 67 } : Room)
def f_X5_run (D : Nat → Nat → Nat → Int32) (sav : Int32) (old : Int32) (hsz : Int32) (cs : Nat → Int32) (len : Int32) (g : Nat → Int32) (v1 : Int32) (v2 : Int32) : Option Int32 := if v1 < 0 then some (-2) else if v2 < 0 then some (-2) else if v2 ≤ 1 then gb (f_X0_firstOfRun (D 0) v1) (fun r4 => if r4 = (-5) then some (-5) else if v2 = 0 then some r4 else gb (f_X0_runFrom (D 0) r4) (fun r7 => some r7)) else some (-2)
set_option maxRecDepth 20000 in
theorem in_X5_run : ∀ w ∈ wsX50, w ∈ wsX5_run := by decide +kernel
set_option maxRecDepth 20000 in
theorem fl_X5_run_10 : Cond.fieldLink RX5 10 (TX5 0).1 (TX5 0).2.1 (TX5 0).2.2.1 ∈ wsX5_run := by decide +kernel
set_option maxHeartbeats 4000000 in
set_option maxRecDepth 100000 in
theorem cn_X5_run (l : Launch) (Z : gZ) (ad : Nat → Nat) (hI : gInj 175 ad) (D : Nat → Nat → Nat → Int32) (sav : Int32) (old : Int32) (hsz : Int32) (cs : Nat → Int32) (len : Int32) (g : Nat → Int32) (v1 : Int32) (v2 : Int32) {r : Int32} (h : f_X5_run D sav old hsz cs len g v1 v2 = some r) : gI l yX5_run wsX5_run rm_X5_run Z 175 ad [.ref (ad 168), .int v1, .int v2] (xE Z.2.1 Z.2.2 ad D sav old hsz cs len g) r (xE Z.2.1 Z.2.2 ad D sav old hsz cs len g) := by
  refine g_entryI (cc := cX5_run) (maxL := 4) (by decide +kernel) rfl hI (Nat.le_of_ble_eq_true rfl) (fun X C e => ?_)
  unfold f_X5_run at h
  show GG X Z 4 175 ad (xE Z.2.1 Z.2.2 ad D sav old hsz cs len g) 0 [(0, .ref (ad 168)), (1, .int v1), (2, .int v2)] []
  refine g_iload_n C dX5_run_0 1 rfl ?_
  refine g_if_lt (tgt := 13) C dX5_run_1 (by decide) (fun c1 => ?_) (fun c1 => ?_)
  · replace h := gi_pos c1 h
    refine g_bipush (v := (-2)) C dX5_run_13 (by decide) ?_
    obtain rfl := gs1 h
    exact g_iret C e dX5_run_15
  · replace h := gi_neg c1 h
    refine g_iload_n C dX5_run_4 2 rfl ?_
    refine g_if_lt (tgt := 13) C dX5_run_5 (by decide) (fun c2 => ?_) (fun c2 => ?_)
    · replace h := gi_pos c2 h
      refine g_bipush (v := (-2)) C dX5_run_13 (by decide) ?_
      obtain rfl := gs1 h
      exact g_iret C e dX5_run_15
    · replace h := gi_neg c2 h
      refine g_iload_n C dX5_run_8 2 rfl ?_
      refine g_iconst (v := 1) C dX5_run_9 (by decide) ?_
      refine g_icmp_le (tgt := 16) C dX5_run_10 (by decide) (fun c3 => ?_) (fun c3 => ?_)
      · replace h := gi_pos c3 h
        refine g_aload_n C dX5_run_16 0 rfl ?_
        refine g_getf (v := .ref (ad (21 * 0))) C 168 (by decide) rfl rfl in_X5_run 0 (by decide) fl_X5_run_10 rfl dX5_run_17 ?_
        refine g_iload_n C dX5_run_20 1 rfl ?_
        obtain ⟨r4, er4, h⟩ := gb1 h
        refine g_callVi (rest := []) C gX5_run_X0_firstOfRun rfl ok_X0_firstOfRun ⟨by decide, by decide⟩ ⟨rfl, rfl⟩ (21 * 0) 21 (by decide) (adc := fun i => ad ((21 * 0) + i)) (fun _ _ => rfl) (xE_dsk 0 (by decide)) 0 (by decide) rfl rfl (fun hI => cn_X0_firstOfRun X.2.1 Z (fun i => ad ((21 * 0) + i)) hI (D 0) v1 er4) rfl dX5_run_21 rfl (Nat.le_of_ble_eq_true rfl) (xE Z.2.1 Z.2.2 ad D sav old hsz cs len g) (xE_id 0 (by decide)) ?_
        refine g_istore_n C dX5_run_24 (by decide) [(3, .int r4), (0, .ref (ad 168)), (1, .int v1), (2, .int v2)] rfl ?_
        refine g_iload_n C dX5_run_25 0 rfl ?_
        refine g_bipush (v := (-5)) C dX5_run_26 (by decide) ?_
        refine g_icmp_ne (tgt := 34) C dX5_run_28 (by decide) (fun c5 => ?_) (fun c5 => ?_)
        · replace h := gi_neg c5 h
          refine g_iload_n C dX5_run_34 3 rfl ?_
          refine g_if_ne (tgt := 42) C dX5_run_35 (by decide) (fun c6 => ?_) (fun c6 => ?_)
          · replace h := gi_neg c6 h
            refine g_aload_n C dX5_run_42 1 rfl ?_
            refine g_getf (v := .ref (ad (21 * 0))) C 168 (by decide) rfl rfl in_X5_run 0 (by decide) fl_X5_run_10 rfl dX5_run_43 ?_
            refine g_iload_n C dX5_run_46 0 rfl ?_
            obtain ⟨r7, er7, h⟩ := gb1 h
            refine g_callVi (rest := []) C gX5_run_X0_runFrom rfl ok_X0_runFrom ⟨by decide, by decide⟩ ⟨rfl, rfl⟩ (21 * 0) 21 (by decide) (adc := fun i => ad ((21 * 0) + i)) (fun _ _ => rfl) (xE_dsk 0 (by decide)) 0 (by decide) rfl rfl (fun hI => cn_X0_runFrom X.2.1 Z (fun i => ad ((21 * 0) + i)) hI (D 0) r4 er7) rfl dX5_run_47 rfl (Nat.le_of_ble_eq_true rfl) (xE Z.2.1 Z.2.2 ad D sav old hsz cs len g) (xE_id 0 (by decide)) ?_
            obtain rfl := gs1 h
            exact g_iret C e dX5_run_50
          · replace h := gi_pos c6 h
            refine g_iload_n C dX5_run_38 0 rfl ?_
            refine g_goto (tgt := 50) C dX5_run_39 (by decide) ?_
            obtain rfl := gs1 h
            exact g_iret C e dX5_run_50
        · replace h := gi_pos c5 h
          refine g_bipush (v := (-5)) C dX5_run_31 (by decide) ?_
          obtain rfl := gs1 h
          exact g_iret C e dX5_run_33
      · replace h := gi_neg c3 h
        refine g_bipush (v := (-2)) C dX5_run_13 (by decide) ?_
        obtain rfl := gs1 h
        exact g_iret C e dX5_run_15
abbrev rm_X5_read : Room := ({ frames := 3, cells := 0, slots := 0, locals := 71 } : Room)
def f_X5_read (D : Nat → Nat → Nat → Int32) (sav : Int32) (old : Int32) (hsz : Int32) (cs : Nat → Int32) (len : Int32) (g : Nat → Int32) (v1 : Int32) (v2 : Int32) (v3 : Int32) (v4 : Int32) : Option Int32 := gb (f_X0_isFile (D 0) v1) (fun r1 => if r1 = 0 then some (-1) else if v2 < 0 then some (-2) else if 64 ≤ v2 then some (-2) else if v3 < 1 then some (-2) else if 64 < v3 then some (-2) else if v4 < 0 then some (-2) else if v4 ≤ 1 then gb (f_X0_sizeOf (D 0) v1) (fun r9 => if v2 < r9 then gb (f_X0_sizeOf (D 0) v1) (fun r11 => glet (if r11 < (v2 + v3) then r11 else (v2 + v3)) (fun x12 => if v4 = 0 then gb (f_X0_sumOfStamps (D 0) v1 v2 x12) (fun r14 => some r14) else some (x12 - v2))) else some (-5)) else some (-2))
set_option maxRecDepth 20000 in
theorem mm_X5_read_175_1 : Cond.methodLink RX5 175 Lib.Math.min.name ∈ wsX5_read := by decide +kernel
set_option maxRecDepth 20000 in
theorem mm_X5_read_175_2 : Cond.static Lib.Math.min.name ∈ wsX5_read := by decide +kernel
set_option maxRecDepth 20000 in
theorem mm_X5_read_175_3 : Cond.initialized "java/lang/Math" ∈ wsX5_read := by decide +kernel
set_option maxRecDepth 20000 in
theorem mm_X5_read_175_4 : Cond.code Lib.Math.min.name Lib.Math.min.code 2 (some .int) ∈ wsX5_read := by decide +kernel
set_option maxRecDepth 20000 in
theorem in_X5_read : ∀ w ∈ wsX50, w ∈ wsX5_read := by decide +kernel
set_option maxRecDepth 20000 in
theorem fl_X5_read_10 : Cond.fieldLink RX5 10 (TX5 0).1 (TX5 0).2.1 (TX5 0).2.2.1 ∈ wsX5_read := by decide +kernel
set_option maxHeartbeats 4000000 in
set_option maxRecDepth 100000 in
theorem cn_X5_read (l : Launch) (Z : gZ) (ad : Nat → Nat) (hI : gInj 175 ad) (D : Nat → Nat → Nat → Int32) (sav : Int32) (old : Int32) (hsz : Int32) (cs : Nat → Int32) (len : Int32) (g : Nat → Int32) (v1 : Int32) (v2 : Int32) (v3 : Int32) (v4 : Int32) {r : Int32} (h : f_X5_read D sav old hsz cs len g v1 v2 v3 v4 = some r) : gI l yX5_read wsX5_read rm_X5_read Z 175 ad [.ref (ad 168), .int v1, .int v2, .int v3, .int v4] (xE Z.2.1 Z.2.2 ad D sav old hsz cs len g) r (xE Z.2.1 Z.2.2 ad D sav old hsz cs len g) := by
  refine g_entryI (cc := cX5_read) (maxL := 6) (by decide +kernel) rfl hI (Nat.le_of_ble_eq_true rfl) (fun X C e => ?_)
  unfold f_X5_read at h
  show GG X Z 6 175 ad (xE Z.2.1 Z.2.2 ad D sav old hsz cs len g) 0 [(0, .ref (ad 168)), (1, .int v1), (2, .int v2), (3, .int v3), (4, .int v4)] []
  refine g_aload_n C dX5_read_0 0 rfl ?_
  refine g_getf (v := .ref (ad (21 * 0))) C 168 (by decide) rfl rfl in_X5_read 0 (by decide) fl_X5_read_10 rfl dX5_read_1 ?_
  refine g_iload_n C dX5_read_4 1 rfl ?_
  obtain ⟨r1, er1, h⟩ := gb1 h
  refine g_callVi (rest := []) C gX5_read_X0_isFile rfl ok_X0_isFile ⟨by decide, by decide⟩ ⟨rfl, rfl⟩ (21 * 0) 21 (by decide) (adc := fun i => ad ((21 * 0) + i)) (fun _ _ => rfl) (xE_dsk 0 (by decide)) 0 (by decide) rfl rfl (fun hI => cn_X0_isFile X.2.1 Z (fun i => ad ((21 * 0) + i)) hI (D 0) v1 er1) rfl dX5_read_5 rfl (Nat.le_of_ble_eq_true rfl) (xE Z.2.1 Z.2.2 ad D sav old hsz cs len g) (xE_id 0 (by decide)) ?_
  refine g_if_ne (tgt := 13) C dX5_read_8 (by decide) (fun c2 => ?_) (fun c2 => ?_)
  · replace h := gi_neg c2 h
    refine g_iload_n C dX5_read_13 2 rfl ?_
    refine g_if_lt (tgt := 45) C dX5_read_14 (by decide) (fun c3 => ?_) (fun c3 => ?_)
    · replace h := gi_pos c3 h
      refine g_bipush (v := (-2)) C dX5_read_45 (by decide) ?_
      obtain rfl := gs1 h
      exact g_iret C e dX5_read_47
    · replace h := gi_neg c3 h
      refine g_iload_n C dX5_read_17 2 rfl ?_
      refine g_bipush (v := 64) C dX5_read_18 (by decide) ?_
      refine g_icmp_ge (tgt := 45) C dX5_read_20 (by decide) (fun c4 => ?_) (fun c4 => ?_)
      · replace h := gi_pos c4 h
        refine g_bipush (v := (-2)) C dX5_read_45 (by decide) ?_
        obtain rfl := gs1 h
        exact g_iret C e dX5_read_47
      · replace h := gi_neg c4 h
        refine g_iload_n C dX5_read_23 3 rfl ?_
        refine g_iconst (v := 1) C dX5_read_24 (by decide) ?_
        refine g_icmp_lt (tgt := 45) C dX5_read_25 (by decide) (fun c5 => ?_) (fun c5 => ?_)
        · replace h := gi_pos c5 h
          refine g_bipush (v := (-2)) C dX5_read_45 (by decide) ?_
          obtain rfl := gs1 h
          exact g_iret C e dX5_read_47
        · replace h := gi_neg c5 h
          refine g_iload_n C dX5_read_28 3 rfl ?_
          refine g_bipush (v := 64) C dX5_read_29 (by decide) ?_
          refine g_icmp_gt (tgt := 45) C dX5_read_31 (by decide) (fun c6 => ?_) (fun c6 => ?_)
          · replace h := gi_pos c6 h
            refine g_bipush (v := (-2)) C dX5_read_45 (by decide) ?_
            obtain rfl := gs1 h
            exact g_iret C e dX5_read_47
          · replace h := gi_neg c6 h
            refine g_iload C dX5_read_34 4 rfl ?_
            refine g_if_lt (tgt := 45) C dX5_read_36 (by decide) (fun c7 => ?_) (fun c7 => ?_)
            · replace h := gi_pos c7 h
              refine g_bipush (v := (-2)) C dX5_read_45 (by decide) ?_
              obtain rfl := gs1 h
              exact g_iret C e dX5_read_47
            · replace h := gi_neg c7 h
              refine g_iload C dX5_read_39 4 rfl ?_
              refine g_iconst (v := 1) C dX5_read_41 (by decide) ?_
              refine g_icmp_le (tgt := 48) C dX5_read_42 (by decide) (fun c8 => ?_) (fun c8 => ?_)
              · replace h := gi_pos c8 h
                refine g_iload_n C dX5_read_48 2 rfl ?_
                refine g_aload_n C dX5_read_49 0 rfl ?_
                refine g_getf (v := .ref (ad (21 * 0))) C 168 (by decide) rfl rfl in_X5_read 0 (by decide) fl_X5_read_10 rfl dX5_read_50 ?_
                refine g_iload_n C dX5_read_53 1 rfl ?_
                obtain ⟨r9, er9, h⟩ := gb1 h
                refine g_callVi (rest := [.int v2]) C gX5_read_X0_sizeOf rfl ok_X0_sizeOf ⟨by decide, by decide⟩ ⟨rfl, rfl⟩ (21 * 0) 21 (by decide) (adc := fun i => ad ((21 * 0) + i)) (fun _ _ => rfl) (xE_dsk 0 (by decide)) 0 (by decide) rfl rfl (fun hI => cn_X0_sizeOf X.2.1 Z (fun i => ad ((21 * 0) + i)) hI (D 0) v1 er9) rfl dX5_read_54 rfl (Nat.le_of_ble_eq_true rfl) (xE Z.2.1 Z.2.2 ad D sav old hsz cs len g) (xE_id 0 (by decide)) ?_
                refine g_icmp_lt (tgt := 63) C dX5_read_57 (by decide) (fun c10 => ?_) (fun c10 => ?_)
                · replace h := gi_pos c10 h
                  refine g_iload_n C dX5_read_63 2 rfl ?_
                  refine g_iload_n C dX5_read_64 3 rfl ?_
                  refine g_iadd C dX5_read_65 ?_
                  refine g_aload_n C dX5_read_66 0 rfl ?_
                  refine g_getf (v := .ref (ad (21 * 0))) C 168 (by decide) rfl rfl in_X5_read 0 (by decide) fl_X5_read_10 rfl dX5_read_67 ?_
                  refine g_iload_n C dX5_read_70 1 rfl ?_
                  obtain ⟨r11, er11, h⟩ := gb1 h
                  refine g_callVi (rest := [.int (v2 + v3)]) C gX5_read_X0_sizeOf rfl ok_X0_sizeOf ⟨by decide, by decide⟩ ⟨rfl, rfl⟩ (21 * 0) 21 (by decide) (adc := fun i => ad ((21 * 0) + i)) (fun _ _ => rfl) (xE_dsk 0 (by decide)) 0 (by decide) rfl rfl (fun hI => cn_X0_sizeOf X.2.1 Z (fun i => ad ((21 * 0) + i)) hI (D 0) v1 er11) rfl dX5_read_71 rfl (Nat.le_of_ble_eq_true rfl) (xE Z.2.1 Z.2.2 ad D sav old hsz cs len g) (xE_id 0 (by decide)) ?_
                  obtain ⟨x12, ex12, h⟩ := gl h
                  refine g_mmin C mm_X5_read_175_1 mm_X5_read_175_2 mm_X5_read_175_3 mm_X5_read_175_4 (by decide) (Nat.le_of_ble_eq_true rfl) dX5_read_74 ?_
                  rw [← ex12]
                  refine g_istore C dX5_read_77 (by decide) [(5, .int x12), (0, .ref (ad 168)), (1, .int v1), (2, .int v2), (3, .int v3), (4, .int v4)] rfl ?_
                  refine g_iload C dX5_read_79 5 rfl ?_
                  refine g_if_ne (tgt := 98) C dX5_read_81 (by decide) (fun c13 => ?_) (fun c13 => ?_)
                  · replace h := gi_neg c13 h
                    refine g_iload C dX5_read_98 0 rfl ?_
                    refine g_iload_n C dX5_read_100 3 rfl ?_
                    refine g_isub C dX5_read_101 ?_
                    obtain rfl := gs1 h
                    exact g_iret C e dX5_read_102
                  · replace h := gi_pos c13 h
                    refine g_aload_n C dX5_read_84 1 rfl ?_
                    refine g_getf (v := .ref (ad (21 * 0))) C 168 (by decide) rfl rfl in_X5_read 0 (by decide) fl_X5_read_10 rfl dX5_read_85 ?_
                    refine g_iload_n C dX5_read_88 2 rfl ?_
                    refine g_iload_n C dX5_read_89 3 rfl ?_
                    refine g_iload C dX5_read_90 0 rfl ?_
                    obtain ⟨r14, er14, h⟩ := gb1 h
                    refine g_callVi (rest := []) C gX5_read_X0_sumOfStamps rfl ok_X0_sumOfStamps ⟨by decide, by decide⟩ ⟨rfl, rfl⟩ (21 * 0) 21 (by decide) (adc := fun i => ad ((21 * 0) + i)) (fun _ _ => rfl) (xE_dsk 0 (by decide)) 0 (by decide) rfl rfl (fun hI => cn_X0_sumOfStamps X.2.1 Z (fun i => ad ((21 * 0) + i)) hI (D 0) v1 v2 x12 er14) rfl dX5_read_92 rfl (Nat.le_of_ble_eq_true rfl) (xE Z.2.1 Z.2.2 ad D sav old hsz cs len g) (xE_id 0 (by decide)) ?_
                    refine g_goto (tgt := 102) C dX5_read_95 (by decide) ?_
                    obtain rfl := gs1 h
                    exact g_iret C e dX5_read_102
                · replace h := gi_neg c10 h
                  refine g_bipush (v := (-5)) C dX5_read_60 (by decide) ?_
                  obtain rfl := gs1 h
                  exact g_iret C e dX5_read_62
              · replace h := gi_neg c8 h
                refine g_bipush (v := (-2)) C dX5_read_45 (by decide) ?_
                obtain rfl := gs1 h
                exact g_iret C e dX5_read_47
  · replace h := gi_pos c2 h
    refine g_iconst (v := (-1)) C dX5_read_11 (by decide) ?_
    obtain rfl := gs1 h
    exact g_iret C e dX5_read_12
abbrev rm_X5_count : Room := ({ frames := 4, cells := 0, slots := 0, locals := 88 } : Room)
def f_X5_count (D : Nat → Nat → Nat → Int32) (sav : Int32) (old : Int32) (hsz : Int32) (cs : Nat → Int32) (len : Int32) (g : Nat → Int32) (v1 : Int32) : Option Int32 := if v1 = 0 then gb (f_X0_filesThatAre (D 0) 2) (fun r2 => gb (f_X0_filesThatAre (D 0) 1) (fun r3 => some (r2 + r3))) else if v1 = 1 then gb (f_X0_filesThatAre (D 0) 2) (fun r5 => some r5) else if v1 = 2 then gb (f_X0_freeBlocks (D 0)) (fun r7 => some r7) else if v1 = 3 then gb (f_X0_dataBlocks (D 0)) (fun r9 => some r9) else if v1 = 4 then gb (f_X0_lentToFilesThatAre (D 0) 2) (fun r11 => gb (f_X0_lentToFilesThatAre (D 0) 1) (fun r12 => some (r11 + r12))) else if v1 = 5 then gb (f_X0_lentToFilesThatAre (D 0) 1) (fun r14 => some r14) else if v1 = 6 then gb (f_X0_freeRuns (D 0)) (fun r16 => some r16) else if v1 = 7 then gb (f_X0_longestRun (D 0)) (fun r18 => some r18) else if v1 = 8 then gb (f_X0_allExtents (D 0)) (fun r20 => some r20) else if v1 = 9 then gb (f_X1_size D sav old hsz cs len g) (fun r22 => some r22) else if v1 = 10 then gb (f_X4_length cs len g) (fun r24 => some r24) else some (-2)
set_option maxRecDepth 20000 in
theorem in_X5_count : ∀ w ∈ wsX50, w ∈ wsX5_count := by decide +kernel
set_option maxRecDepth 20000 in
theorem fl_X5_count_10 : Cond.fieldLink RX5 10 (TX5 0).1 (TX5 0).2.1 (TX5 0).2.2.1 ∈ wsX5_count := by decide +kernel
set_option maxRecDepth 20000 in
theorem fl_X5_count_29 : Cond.fieldLink RX5 29 (TX5 4).1 (TX5 4).2.1 (TX5 4).2.2.1 ∈ wsX5_count := by decide +kernel
set_option maxRecDepth 20000 in
theorem fl_X5_count_36 : Cond.fieldLink RX5 36 (TX5 5).1 (TX5 5).2.1 (TX5 5).2.2.1 ∈ wsX5_count := by decide +kernel
set_option maxHeartbeats 4000000 in
set_option maxRecDepth 100000 in
theorem cn_X5_count (l : Launch) (Z : gZ) (ad : Nat → Nat) (hI : gInj 175 ad) (D : Nat → Nat → Nat → Int32) (sav : Int32) (old : Int32) (hsz : Int32) (cs : Nat → Int32) (len : Int32) (g : Nat → Int32) (v1 : Int32) {r : Int32} (h : f_X5_count D sav old hsz cs len g v1 = some r) : gI l yX5_count wsX5_count rm_X5_count Z 175 ad [.ref (ad 168), .int v1] (xE Z.2.1 Z.2.2 ad D sav old hsz cs len g) r (xE Z.2.1 Z.2.2 ad D sav old hsz cs len g) := by
  refine g_entryI (cc := cX5_count) (maxL := 2) (by decide +kernel) rfl hI (Nat.le_of_ble_eq_true rfl) (fun X C e => ?_)
  unfold f_X5_count at h
  show GG X Z 2 175 ad (xE Z.2.1 Z.2.2 ad D sav old hsz cs len g) 0 [(0, .ref (ad 168)), (1, .int v1)] []
  refine g_iload_n C dX5_count_0 1 rfl ?_
  by_cases c1 : v1 = 0
  · replace h := gi_pos c1 h
    refine g_tableIn (tgt := 60) (off := 59) C 0 c1 dX5_count_1 (by decide) (by decide) (by decide) (by decide) ?_
    refine g_aload_n C dX5_count_60 0 rfl ?_
    refine g_getf (v := .ref (ad (21 * 0))) C 168 (by decide) rfl rfl in_X5_count 0 (by decide) fl_X5_count_10 rfl dX5_count_61 ?_
    refine g_iconst (v := 2) C dX5_count_64 (by decide) ?_
    obtain ⟨r2, er2, h⟩ := gb1 h
    refine g_callVi (rest := []) C gX5_count_X0_filesThatAre rfl ok_X0_filesThatAre ⟨by decide, by decide⟩ ⟨rfl, rfl⟩ (21 * 0) 21 (by decide) (adc := fun i => ad ((21 * 0) + i)) (fun _ _ => rfl) (xE_dsk 0 (by decide)) 0 (by decide) rfl rfl (fun hI => cn_X0_filesThatAre X.2.1 Z (fun i => ad ((21 * 0) + i)) hI (D 0) 2 er2) rfl dX5_count_65 rfl (Nat.le_of_ble_eq_true rfl) (xE Z.2.1 Z.2.2 ad D sav old hsz cs len g) (xE_id 0 (by decide)) ?_
    refine g_aload_n C dX5_count_68 0 rfl ?_
    refine g_getf (v := .ref (ad (21 * 0))) C 168 (by decide) rfl rfl in_X5_count 0 (by decide) fl_X5_count_10 rfl dX5_count_69 ?_
    refine g_iconst (v := 1) C dX5_count_72 (by decide) ?_
    obtain ⟨r3, er3, h⟩ := gb1 h
    refine g_callVi (rest := [.int r2]) C gX5_count_X0_filesThatAre rfl ok_X0_filesThatAre ⟨by decide, by decide⟩ ⟨rfl, rfl⟩ (21 * 0) 21 (by decide) (adc := fun i => ad ((21 * 0) + i)) (fun _ _ => rfl) (xE_dsk 0 (by decide)) 0 (by decide) rfl rfl (fun hI => cn_X0_filesThatAre X.2.1 Z (fun i => ad ((21 * 0) + i)) hI (D 0) 1 er3) rfl dX5_count_73 rfl (Nat.le_of_ble_eq_true rfl) (xE Z.2.1 Z.2.2 ad D sav old hsz cs len g) (xE_id 0 (by decide)) ?_
    refine g_iadd C dX5_count_76 ?_
    obtain rfl := gs1 h
    exact g_iret C e dX5_count_77
  · replace h := gi_neg c1 h
    by_cases c4 : v1 = 1
    · replace h := gi_pos c4 h
      refine g_tableIn (tgt := 78) (off := 77) C 1 c4 dX5_count_1 (by decide) (by decide) (by decide) (by decide) ?_
      refine g_aload_n C dX5_count_78 0 rfl ?_
      refine g_getf (v := .ref (ad (21 * 0))) C 168 (by decide) rfl rfl in_X5_count 0 (by decide) fl_X5_count_10 rfl dX5_count_79 ?_
      refine g_iconst (v := 2) C dX5_count_82 (by decide) ?_
      obtain ⟨r5, er5, h⟩ := gb1 h
      refine g_callVi (rest := []) C gX5_count_X0_filesThatAre rfl ok_X0_filesThatAre ⟨by decide, by decide⟩ ⟨rfl, rfl⟩ (21 * 0) 21 (by decide) (adc := fun i => ad ((21 * 0) + i)) (fun _ _ => rfl) (xE_dsk 0 (by decide)) 0 (by decide) rfl rfl (fun hI => cn_X0_filesThatAre X.2.1 Z (fun i => ad ((21 * 0) + i)) hI (D 0) 2 er5) rfl dX5_count_83 rfl (Nat.le_of_ble_eq_true rfl) (xE Z.2.1 Z.2.2 ad D sav old hsz cs len g) (xE_id 0 (by decide)) ?_
      obtain rfl := gs1 h
      exact g_iret C e dX5_count_86
    · replace h := gi_neg c4 h
      by_cases c6 : v1 = 2
      · replace h := gi_pos c6 h
        refine g_tableIn (tgt := 87) (off := 86) C 2 c6 dX5_count_1 (by decide) (by decide) (by decide) (by decide) ?_
        refine g_aload_n C dX5_count_87 0 rfl ?_
        refine g_getf (v := .ref (ad (21 * 0))) C 168 (by decide) rfl rfl in_X5_count 0 (by decide) fl_X5_count_10 rfl dX5_count_88 ?_
        obtain ⟨r7, er7, h⟩ := gb1 h
        refine g_callVi (rest := []) C gX5_count_X0_freeBlocks rfl ok_X0_freeBlocks ⟨by decide, by decide⟩ ⟨rfl, rfl⟩ (21 * 0) 21 (by decide) (adc := fun i => ad ((21 * 0) + i)) (fun _ _ => rfl) (xE_dsk 0 (by decide)) 0 (by decide) rfl rfl (fun hI => cn_X0_freeBlocks X.2.1 Z (fun i => ad ((21 * 0) + i)) hI (D 0)  er7) rfl dX5_count_91 rfl (Nat.le_of_ble_eq_true rfl) (xE Z.2.1 Z.2.2 ad D sav old hsz cs len g) (xE_id 0 (by decide)) ?_
        obtain rfl := gs1 h
        exact g_iret C e dX5_count_94
      · replace h := gi_neg c6 h
        by_cases c8 : v1 = 3
        · replace h := gi_pos c8 h
          refine g_tableIn (tgt := 95) (off := 94) C 3 c8 dX5_count_1 (by decide) (by decide) (by decide) (by decide) ?_
          refine g_aload_n C dX5_count_95 0 rfl ?_
          refine g_getf (v := .ref (ad (21 * 0))) C 168 (by decide) rfl rfl in_X5_count 0 (by decide) fl_X5_count_10 rfl dX5_count_96 ?_
          obtain ⟨r9, er9, h⟩ := gb1 h
          refine g_callVi (rest := []) C gX5_count_X0_dataBlocks rfl ok_X0_dataBlocks ⟨by decide, by decide⟩ ⟨rfl, rfl⟩ (21 * 0) 21 (by decide) (adc := fun i => ad ((21 * 0) + i)) (fun _ _ => rfl) (xE_dsk 0 (by decide)) 0 (by decide) rfl rfl (fun hI => cn_X0_dataBlocks X.2.1 Z (fun i => ad ((21 * 0) + i)) hI (D 0)  er9) rfl dX5_count_99 rfl (Nat.le_of_ble_eq_true rfl) (xE Z.2.1 Z.2.2 ad D sav old hsz cs len g) (xE_id 0 (by decide)) ?_
          obtain rfl := gs1 h
          exact g_iret C e dX5_count_102
        · replace h := gi_neg c8 h
          by_cases c10 : v1 = 4
          · replace h := gi_pos c10 h
            refine g_tableIn (tgt := 103) (off := 102) C 4 c10 dX5_count_1 (by decide) (by decide) (by decide) (by decide) ?_
            refine g_aload_n C dX5_count_103 0 rfl ?_
            refine g_getf (v := .ref (ad (21 * 0))) C 168 (by decide) rfl rfl in_X5_count 0 (by decide) fl_X5_count_10 rfl dX5_count_104 ?_
            refine g_iconst (v := 2) C dX5_count_107 (by decide) ?_
            obtain ⟨r11, er11, h⟩ := gb1 h
            refine g_callVi (rest := []) C gX5_count_X0_lentToFilesThatAre rfl ok_X0_lentToFilesThatAre ⟨by decide, by decide⟩ ⟨rfl, rfl⟩ (21 * 0) 21 (by decide) (adc := fun i => ad ((21 * 0) + i)) (fun _ _ => rfl) (xE_dsk 0 (by decide)) 0 (by decide) rfl rfl (fun hI => cn_X0_lentToFilesThatAre X.2.1 Z (fun i => ad ((21 * 0) + i)) hI (D 0) 2 er11) rfl dX5_count_108 rfl (Nat.le_of_ble_eq_true rfl) (xE Z.2.1 Z.2.2 ad D sav old hsz cs len g) (xE_id 0 (by decide)) ?_
            refine g_aload_n C dX5_count_111 0 rfl ?_
            refine g_getf (v := .ref (ad (21 * 0))) C 168 (by decide) rfl rfl in_X5_count 0 (by decide) fl_X5_count_10 rfl dX5_count_112 ?_
            refine g_iconst (v := 1) C dX5_count_115 (by decide) ?_
            obtain ⟨r12, er12, h⟩ := gb1 h
            refine g_callVi (rest := [.int r11]) C gX5_count_X0_lentToFilesThatAre rfl ok_X0_lentToFilesThatAre ⟨by decide, by decide⟩ ⟨rfl, rfl⟩ (21 * 0) 21 (by decide) (adc := fun i => ad ((21 * 0) + i)) (fun _ _ => rfl) (xE_dsk 0 (by decide)) 0 (by decide) rfl rfl (fun hI => cn_X0_lentToFilesThatAre X.2.1 Z (fun i => ad ((21 * 0) + i)) hI (D 0) 1 er12) rfl dX5_count_116 rfl (Nat.le_of_ble_eq_true rfl) (xE Z.2.1 Z.2.2 ad D sav old hsz cs len g) (xE_id 0 (by decide)) ?_
            refine g_iadd C dX5_count_119 ?_
            obtain rfl := gs1 h
            exact g_iret C e dX5_count_120
          · replace h := gi_neg c10 h
            by_cases c13 : v1 = 5
            · replace h := gi_pos c13 h
              refine g_tableIn (tgt := 121) (off := 120) C 5 c13 dX5_count_1 (by decide) (by decide) (by decide) (by decide) ?_
              refine g_aload_n C dX5_count_121 0 rfl ?_
              refine g_getf (v := .ref (ad (21 * 0))) C 168 (by decide) rfl rfl in_X5_count 0 (by decide) fl_X5_count_10 rfl dX5_count_122 ?_
              refine g_iconst (v := 1) C dX5_count_125 (by decide) ?_
              obtain ⟨r14, er14, h⟩ := gb1 h
              refine g_callVi (rest := []) C gX5_count_X0_lentToFilesThatAre rfl ok_X0_lentToFilesThatAre ⟨by decide, by decide⟩ ⟨rfl, rfl⟩ (21 * 0) 21 (by decide) (adc := fun i => ad ((21 * 0) + i)) (fun _ _ => rfl) (xE_dsk 0 (by decide)) 0 (by decide) rfl rfl (fun hI => cn_X0_lentToFilesThatAre X.2.1 Z (fun i => ad ((21 * 0) + i)) hI (D 0) 1 er14) rfl dX5_count_126 rfl (Nat.le_of_ble_eq_true rfl) (xE Z.2.1 Z.2.2 ad D sav old hsz cs len g) (xE_id 0 (by decide)) ?_
              obtain rfl := gs1 h
              exact g_iret C e dX5_count_129
            · replace h := gi_neg c13 h
              by_cases c15 : v1 = 6
              · replace h := gi_pos c15 h
                refine g_tableIn (tgt := 130) (off := 129) C 6 c15 dX5_count_1 (by decide) (by decide) (by decide) (by decide) ?_
                refine g_aload_n C dX5_count_130 0 rfl ?_
                refine g_getf (v := .ref (ad (21 * 0))) C 168 (by decide) rfl rfl in_X5_count 0 (by decide) fl_X5_count_10 rfl dX5_count_131 ?_
                obtain ⟨r16, er16, h⟩ := gb1 h
                refine g_callVi (rest := []) C gX5_count_X0_freeRuns rfl ok_X0_freeRuns ⟨by decide, by decide⟩ ⟨rfl, rfl⟩ (21 * 0) 21 (by decide) (adc := fun i => ad ((21 * 0) + i)) (fun _ _ => rfl) (xE_dsk 0 (by decide)) 0 (by decide) rfl rfl (fun hI => cn_X0_freeRuns X.2.1 Z (fun i => ad ((21 * 0) + i)) hI (D 0)  er16) rfl dX5_count_134 rfl (Nat.le_of_ble_eq_true rfl) (xE Z.2.1 Z.2.2 ad D sav old hsz cs len g) (xE_id 0 (by decide)) ?_
                obtain rfl := gs1 h
                exact g_iret C e dX5_count_137
              · replace h := gi_neg c15 h
                by_cases c17 : v1 = 7
                · replace h := gi_pos c17 h
                  refine g_tableIn (tgt := 138) (off := 137) C 7 c17 dX5_count_1 (by decide) (by decide) (by decide) (by decide) ?_
                  refine g_aload_n C dX5_count_138 0 rfl ?_
                  refine g_getf (v := .ref (ad (21 * 0))) C 168 (by decide) rfl rfl in_X5_count 0 (by decide) fl_X5_count_10 rfl dX5_count_139 ?_
                  obtain ⟨r18, er18, h⟩ := gb1 h
                  refine g_callVi (rest := []) C gX5_count_X0_longestRun rfl ok_X0_longestRun ⟨by decide, by decide⟩ ⟨rfl, rfl⟩ (21 * 0) 21 (by decide) (adc := fun i => ad ((21 * 0) + i)) (fun _ _ => rfl) (xE_dsk 0 (by decide)) 0 (by decide) rfl rfl (fun hI => cn_X0_longestRun X.2.1 Z (fun i => ad ((21 * 0) + i)) hI (D 0)  er18) rfl dX5_count_142 rfl (Nat.le_of_ble_eq_true rfl) (xE Z.2.1 Z.2.2 ad D sav old hsz cs len g) (xE_id 0 (by decide)) ?_
                  obtain rfl := gs1 h
                  exact g_iret C e dX5_count_145
                · replace h := gi_neg c17 h
                  by_cases c19 : v1 = 8
                  · replace h := gi_pos c19 h
                    refine g_tableIn (tgt := 146) (off := 145) C 8 c19 dX5_count_1 (by decide) (by decide) (by decide) (by decide) ?_
                    refine g_aload_n C dX5_count_146 0 rfl ?_
                    refine g_getf (v := .ref (ad (21 * 0))) C 168 (by decide) rfl rfl in_X5_count 0 (by decide) fl_X5_count_10 rfl dX5_count_147 ?_
                    obtain ⟨r20, er20, h⟩ := gb1 h
                    refine g_callVi (rest := []) C gX5_count_X0_allExtents rfl ok_X0_allExtents ⟨by decide, by decide⟩ ⟨rfl, rfl⟩ (21 * 0) 21 (by decide) (adc := fun i => ad ((21 * 0) + i)) (fun _ _ => rfl) (xE_dsk 0 (by decide)) 0 (by decide) rfl rfl (fun hI => cn_X0_allExtents X.2.1 Z (fun i => ad ((21 * 0) + i)) hI (D 0)  er20) rfl dX5_count_150 rfl (Nat.le_of_ble_eq_true rfl) (xE Z.2.1 Z.2.2 ad D sav old hsz cs len g) (xE_id 0 (by decide)) ?_
                    obtain rfl := gs1 h
                    exact g_iret C e dX5_count_153
                  · replace h := gi_neg c19 h
                    by_cases c21 : v1 = 9
                    · replace h := gi_pos c21 h
                      refine g_tableIn (tgt := 154) (off := 153) C 9 c21 dX5_count_1 (by decide) (by decide) (by decide) (by decide) ?_
                      refine g_aload_n C dX5_count_154 0 rfl ?_
                      refine g_getf (v := .ref (ad 169)) C 168 (by decide) rfl rfl in_X5_count 4 (by decide) fl_X5_count_29 rfl dX5_count_155 ?_
                      obtain ⟨r22, er22, h⟩ := gb1 h
                      refine g_callWi (rest := []) C gX5_count_X1_size rfl ok_X1_size ⟨by decide, by decide⟩ ⟨rfl, rfl⟩ 169 (by decide) rfl rfl (fun hI => cn_X1_size X.2.1 Z ad hI D sav old hsz cs len g  er22) rfl dX5_count_158 rfl (Nat.le_of_ble_eq_true rfl) ?_
                      obtain rfl := gs1 h
                      exact g_iret C e dX5_count_161
                    · replace h := gi_neg c21 h
                      by_cases c23 : v1 = 10
                      · replace h := gi_pos c23 h
                        refine g_tableIn (tgt := 162) (off := 161) C 10 c23 dX5_count_1 (by decide) (by decide) (by decide) (by decide) ?_
                        refine g_aload_n C dX5_count_162 0 rfl ?_
                        refine g_getf (v := .ref (ad 171)) C 168 (by decide) rfl rfl in_X5_count 5 (by decide) fl_X5_count_36 rfl dX5_count_163 ?_
                        obtain ⟨r24, er24, h⟩ := gb1 h
                        refine g_callVi (rest := []) C gX5_count_X4_length rfl ok_X4_length ⟨by decide, by decide⟩ ⟨rfl, rfl⟩ 171 4 (by decide) (adc := fun i => ad (171 + i)) (fun _ _ => rfl) xE_scr 0 (by decide) rfl rfl (fun hI => cn_X4_length X.2.1 Z (fun i => ad (171 + i)) hI cs len g  er24) rfl dX5_count_166 rfl (Nat.le_of_ble_eq_true rfl) (xE Z.2.1 Z.2.2 ad D sav old hsz cs len g) xE_sid ?_
                        obtain rfl := gs1 h
                        exact g_iret C e dX5_count_169
                      · replace h := gi_neg c23 h
                        refine g_tableOut (tgt := 170) C dX5_count_1 (by have nc1 := g_ne (a := 0) c1 (by decide); have nc4 := g_ne (a := 1) c4 (by decide); have nc6 := g_ne (a := 2) c6 (by decide); have nc8 := g_ne (a := 3) c8 (by decide); have nc10 := g_ne (a := 4) c10 (by decide); have nc13 := g_ne (a := 5) c13 (by decide); have nc15 := g_ne (a := 6) c15 (by decide); have nc17 := g_ne (a := 7) c17 (by decide); have nc19 := g_ne (a := 8) c19 (by decide); have nc21 := g_ne (a := 9) c21 (by decide); have nc23 := g_ne (a := 10) c23 (by decide); omega) (by decide) ?_
                        refine g_bipush (v := (-2)) C dX5_count_170 (by decide) ?_
                        obtain rfl := gs1 h
                        exact g_iret C e dX5_count_172
abbrev rm_X5_total : Room := ({ frames := 2, cells := 0, slots := 0, locals := 42 } : Room)
def f_X5_total (D : Nat → Nat → Nat → Int32) (sav : Int32) (old : Int32) (hsz : Int32) (cs : Nat → Int32) (len : Int32) (g : Nat → Int32) (v1 : Int32) : Option Int32 := if v1 < 0 then some (-2) else if 4 ≤ v1 then some (-2) else gb (f_X0_totalOf (D 0) v1) (fun r3 => some r3)
set_option maxRecDepth 20000 in
theorem in_X5_total : ∀ w ∈ wsX50, w ∈ wsX5_total := by decide +kernel
set_option maxRecDepth 20000 in
theorem fl_X5_total_10 : Cond.fieldLink RX5 10 (TX5 0).1 (TX5 0).2.1 (TX5 0).2.2.1 ∈ wsX5_total := by decide +kernel
set_option maxHeartbeats 4000000 in
set_option maxRecDepth 100000 in
theorem cn_X5_total (l : Launch) (Z : gZ) (ad : Nat → Nat) (hI : gInj 175 ad) (D : Nat → Nat → Nat → Int32) (sav : Int32) (old : Int32) (hsz : Int32) (cs : Nat → Int32) (len : Int32) (g : Nat → Int32) (v1 : Int32) {r : Int32} (h : f_X5_total D sav old hsz cs len g v1 = some r) : gI l yX5_total wsX5_total rm_X5_total Z 175 ad [.ref (ad 168), .int v1] (xE Z.2.1 Z.2.2 ad D sav old hsz cs len g) r (xE Z.2.1 Z.2.2 ad D sav old hsz cs len g) := by
  refine g_entryI (cc := cX5_total) (maxL := 2) (by decide +kernel) rfl hI (Nat.le_of_ble_eq_true rfl) (fun X C e => ?_)
  unfold f_X5_total at h
  show GG X Z 2 175 ad (xE Z.2.1 Z.2.2 ad D sav old hsz cs len g) 0 [(0, .ref (ad 168)), (1, .int v1)] []
  refine g_iload_n C dX5_total_0 1 rfl ?_
  refine g_if_lt (tgt := 20) C dX5_total_1 (by decide) (fun c1 => ?_) (fun c1 => ?_)
  · replace h := gi_pos c1 h
    refine g_bipush (v := (-2)) C dX5_total_20 (by decide) ?_
    obtain rfl := gs1 h
    exact g_iret C e dX5_total_22
  · replace h := gi_neg c1 h
    refine g_iload_n C dX5_total_4 1 rfl ?_
    refine g_iconst (v := 4) C dX5_total_5 (by decide) ?_
    refine g_icmp_ge (tgt := 20) C dX5_total_6 (by decide) (fun c2 => ?_) (fun c2 => ?_)
    · replace h := gi_pos c2 h
      refine g_bipush (v := (-2)) C dX5_total_20 (by decide) ?_
      obtain rfl := gs1 h
      exact g_iret C e dX5_total_22
    · replace h := gi_neg c2 h
      refine g_aload_n C dX5_total_9 0 rfl ?_
      refine g_getf (v := .ref (ad (21 * 0))) C 168 (by decide) rfl rfl in_X5_total 0 (by decide) fl_X5_total_10 rfl dX5_total_10 ?_
      refine g_iload_n C dX5_total_13 1 rfl ?_
      obtain ⟨r3, er3, h⟩ := gb1 h
      refine g_callVi (rest := []) C gX5_total_X0_totalOf rfl ok_X0_totalOf ⟨by decide, by decide⟩ ⟨rfl, rfl⟩ (21 * 0) 21 (by decide) (adc := fun i => ad ((21 * 0) + i)) (fun _ _ => rfl) (xE_dsk 0 (by decide)) 0 (by decide) rfl rfl (fun hI => cn_X0_totalOf X.2.1 Z (fun i => ad ((21 * 0) + i)) hI (D 0) v1 er3) rfl dX5_total_14 rfl (Nat.le_of_ble_eq_true rfl) (xE Z.2.1 Z.2.2 ad D sav old hsz cs len g) (xE_id 0 (by decide)) ?_
      refine g_goto (tgt := 22) C dX5_total_17 (by decide) ?_
      obtain rfl := gs1 h
      exact g_iret C e dX5_total_22
abbrev rm_X5_ifAppended : Room := ({ frames := 5, cells := 0, slots := 0, locals := 121 } : Room)
def f_X5_ifAppended (D : Nat → Nat → Nat → Int32) (sav : Int32) (old : Int32) (hsz : Int32) (cs : Nat → Int32) (len : Int32) (g : Nat → Int32) (v1 : Int32) (v2 : Int32) (v3 : Int32) : Option (Int32 × (Nat → Nat → Nat → Int32)) := gb (f_X0_isFile (D 0) v1) (fun r1 => if r1 = 0 then some ((-1), D) else if v3 < 0 then some ((-2), D) else if v3 ≤ 2 then glet (dcp D 1 0) (fun D5 => gbb2 (f_X0_appendTo (D5 1) v1 v2 0) (fun r6 w7 => glet (va_up D5 1 w7) (fun D8 => if r6 < 0 then some (r6, D8) else if v3 = 0 then some (r6, D8) else if v3 = 1 then gb (f_X0_lentOf (D8 1) v1) (fun r13 => some (r13, D8)) else gb (f_X0_freeBlocks (D8 1)) (fun r12 => some (r12, D8))))) else some ((-2), D))
set_option maxRecDepth 20000 in
theorem in_X5_ifAppended : ∀ w ∈ wsX50, w ∈ wsX5_ifAppended := by decide +kernel
set_option maxRecDepth 20000 in
theorem fl_X5_ifAppended_16 : Cond.fieldLink RX5 16 (TX5 1).1 (TX5 1).2.1 (TX5 1).2.2.1 ∈ wsX5_ifAppended := by decide +kernel
set_option maxRecDepth 20000 in
theorem fl_X5_ifAppended_10 : Cond.fieldLink RX5 10 (TX5 0).1 (TX5 0).2.1 (TX5 0).2.2.1 ∈ wsX5_ifAppended := by decide +kernel
set_option maxHeartbeats 4000000 in
set_option maxRecDepth 100000 in
theorem cn_X5_ifAppended (l : Launch) (Z : gZ) (ad : Nat → Nat) (hI : gInj 175 ad) (D : Nat → Nat → Nat → Int32) (sav : Int32) (old : Int32) (hsz : Int32) (cs : Nat → Int32) (len : Int32) (g : Nat → Int32) (v1 : Int32) (v2 : Int32) (v3 : Int32) {r : Int32} {D' : Nat → Nat → Nat → Int32} (h : f_X5_ifAppended D sav old hsz cs len g v1 v2 v3 = some (r, D')) : gI l yX5_ifAppended wsX5_ifAppended rm_X5_ifAppended Z 175 ad [.ref (ad 168), .int v1, .int v2, .int v3] (xE Z.2.1 Z.2.2 ad D sav old hsz cs len g) r (xE Z.2.1 Z.2.2 ad D' sav old hsz cs len g) := by
  refine g_entryI (cc := cX5_ifAppended) (maxL := 5) (by decide +kernel) rfl hI (Nat.le_of_ble_eq_true rfl) (fun X C e => ?_)
  unfold f_X5_ifAppended at h
  show GG X Z 5 175 ad (xE Z.2.1 Z.2.2 ad D sav old hsz cs len g) 0 [(0, .ref (ad 168)), (1, .int v1), (2, .int v2), (3, .int v3)] []
  refine g_aload_n C dX5_ifAppended_0 0 rfl ?_
  refine g_getf (v := .ref (ad (21 * 0))) C 168 (by decide) rfl rfl in_X5_ifAppended 0 (by decide) fl_X5_ifAppended_10 rfl dX5_ifAppended_1 ?_
  refine g_iload_n C dX5_ifAppended_4 1 rfl ?_
  obtain ⟨r1, er1, h⟩ := gb1 h
  refine g_callVi (rest := []) C gX5_ifAppended_X0_isFile rfl ok_X0_isFile ⟨by decide, by decide⟩ ⟨rfl, rfl⟩ (21 * 0) 21 (by decide) (adc := fun i => ad ((21 * 0) + i)) (fun _ _ => rfl) (xE_dsk 0 (by decide)) 0 (by decide) rfl rfl (fun hI => cn_X0_isFile X.2.1 Z (fun i => ad ((21 * 0) + i)) hI (D 0) v1 er1) rfl dX5_ifAppended_5 rfl (Nat.le_of_ble_eq_true rfl) (xE Z.2.1 Z.2.2 ad D sav old hsz cs len g) (xE_id 0 (by decide)) ?_
  refine g_if_ne (tgt := 13) C dX5_ifAppended_8 (by decide) (fun c2 => ?_) (fun c2 => ?_)
  · replace h := gi_neg c2 h
    refine g_iload_n C dX5_ifAppended_13 3 rfl ?_
    refine g_if_lt (tgt := 22) C dX5_ifAppended_14 (by decide) (fun c3 => ?_) (fun c3 => ?_)
    · replace h := gi_pos c3 h
      refine g_bipush (v := (-2)) C dX5_ifAppended_22 (by decide) ?_
      obtain ⟨rfl, rfl⟩ := gs2 h
      exact g_iret C e dX5_ifAppended_24
    · replace h := gi_neg c3 h
      refine g_iload_n C dX5_ifAppended_17 3 rfl ?_
      refine g_iconst (v := 2) C dX5_ifAppended_18 (by decide) ?_
      refine g_icmp_le (tgt := 25) C dX5_ifAppended_19 (by decide) (fun c4 => ?_) (fun c4 => ?_)
      · replace h := gi_pos c4 h
        refine g_aload_n C dX5_ifAppended_25 0 rfl ?_
        refine g_getf (v := .ref (ad (21 * 1))) C 168 (by decide) rfl rfl in_X5_ifAppended 1 (by decide) fl_X5_ifAppended_16 rfl dX5_ifAppended_26 ?_
        refine g_aload_n C dX5_ifAppended_29 0 rfl ?_
        refine g_getf (v := .ref (ad (21 * 0))) C 168 (by decide) rfl rfl in_X5_ifAppended 0 (by decide) fl_X5_ifAppended_10 rfl dX5_ifAppended_30 ?_
        obtain ⟨D5, eD5, h⟩ := gl h
        refine g_callWv (rest := []) (E2 := (xE Z.2.1 Z.2.2 ad D5 sav old hsz cs len g)) (rm' := rm_X0_copyFrom) C gX5_ifAppended_X0_copyFrom rfl ok_X0_copyFrom ⟨by decide, by decide⟩ ⟨rfl, rfl⟩ (21 * 1) (by decide) (xE_rec 1 (by decide)) rfl (fun hI => by rw [eD5]; exact cn_X0_copyFrom X.2.1 Z ad hI D sav old hsz cs len g 1 0 (by decide) (by decide) (by decide)) rfl dX5_ifAppended_33 rfl (Nat.le_of_ble_eq_true rfl) ?_
        refine g_aload_n C dX5_ifAppended_36 0 rfl ?_
        refine g_getf (v := .ref (ad (21 * 1))) C 168 (by decide) rfl rfl in_X5_ifAppended 1 (by decide) fl_X5_ifAppended_16 rfl dX5_ifAppended_37 ?_
        refine g_iload_n C dX5_ifAppended_40 1 rfl ?_
        refine g_iload_n C dX5_ifAppended_41 2 rfl ?_
        refine g_iconst (v := 0) C dX5_ifAppended_42 (by decide) ?_
        obtain ⟨r6, w7, er6, h⟩ := gb2 h
        obtain ⟨D8, eD8, h⟩ := gl h
        refine g_callVi (rest := []) C gX5_ifAppended_X0_appendTo rfl ok_X0_appendTo ⟨by decide, by decide⟩ ⟨rfl, rfl⟩ (21 * 1) 21 (by decide) (adc := fun i => ad ((21 * 1) + i)) (fun _ _ => rfl) (xE_dsk 1 (by decide)) 0 (by decide) rfl rfl (fun hI => cn_X0_appendTo X.2.1 Z (fun i => ad ((21 * 1) + i)) hI (D5 1) v1 v2 0 er6) rfl dX5_ifAppended_43 rfl (Nat.le_of_ble_eq_true rfl) (xE Z.2.1 Z.2.2 ad D8 sav old hsz cs len g) (by rw [eD8]; exact (xE_up 1 (by decide))) ?_
        refine g_istore C dX5_ifAppended_46 (by decide) [(4, .int r6), (0, .ref (ad 168)), (1, .int v1), (2, .int v2), (3, .int v3)] rfl ?_
        refine g_iload C dX5_ifAppended_48 0 rfl ?_
        refine g_if_lt (tgt := 57) C dX5_ifAppended_50 (by decide) (fun c9 => ?_) (fun c9 => ?_)
        · replace h := gi_pos c9 h
          refine g_iload C dX5_ifAppended_57 0 rfl ?_
          obtain ⟨rfl, rfl⟩ := gs2 h
          exact g_iret C e dX5_ifAppended_59
        · replace h := gi_neg c9 h
          refine g_iload_n C dX5_ifAppended_53 4 rfl ?_
          refine g_if_ne (tgt := 60) C dX5_ifAppended_54 (by decide) (fun c10 => ?_) (fun c10 => ?_)
          · replace h := gi_neg c10 h
            refine g_iload_n C dX5_ifAppended_60 4 rfl ?_
            refine g_iconst (v := 1) C dX5_ifAppended_61 (by decide) ?_
            refine g_icmp_ne (tgt := 76) C dX5_ifAppended_62 (by decide) (fun c11 => ?_) (fun c11 => ?_)
            · replace h := gi_neg c11 h
              refine g_aload_n C dX5_ifAppended_76 1 rfl ?_
              refine g_getf (v := .ref (ad (21 * 1))) C 168 (by decide) rfl rfl in_X5_ifAppended 1 (by decide) fl_X5_ifAppended_16 rfl dX5_ifAppended_77 ?_
              obtain ⟨r12, er12, h⟩ := gb1 h
              refine g_callVi (rest := []) C gX5_ifAppended_X0_freeBlocks rfl ok_X0_freeBlocks ⟨by decide, by decide⟩ ⟨rfl, rfl⟩ (21 * 1) 21 (by decide) (adc := fun i => ad ((21 * 1) + i)) (fun _ _ => rfl) (xE_dsk 1 (by decide)) 0 (by decide) rfl rfl (fun hI => cn_X0_freeBlocks X.2.1 Z (fun i => ad ((21 * 1) + i)) hI (D8 1)  er12) rfl dX5_ifAppended_80 rfl (Nat.le_of_ble_eq_true rfl) (xE Z.2.1 Z.2.2 ad D8 sav old hsz cs len g) (xE_id 1 (by decide)) ?_
              obtain ⟨rfl, rfl⟩ := gs2 h
              exact g_iret C e dX5_ifAppended_83
            · replace h := gi_pos c11 h
              refine g_aload_n C dX5_ifAppended_65 1 rfl ?_
              refine g_getf (v := .ref (ad (21 * 1))) C 168 (by decide) rfl rfl in_X5_ifAppended 1 (by decide) fl_X5_ifAppended_16 rfl dX5_ifAppended_66 ?_
              refine g_iload_n C dX5_ifAppended_69 2 rfl ?_
              obtain ⟨r13, er13, h⟩ := gb1 h
              refine g_callVi (rest := []) C gX5_ifAppended_X0_lentOf rfl ok_X0_lentOf ⟨by decide, by decide⟩ ⟨rfl, rfl⟩ (21 * 1) 21 (by decide) (adc := fun i => ad ((21 * 1) + i)) (fun _ _ => rfl) (xE_dsk 1 (by decide)) 0 (by decide) rfl rfl (fun hI => cn_X0_lentOf X.2.1 Z (fun i => ad ((21 * 1) + i)) hI (D8 1) v1 er13) rfl dX5_ifAppended_70 rfl (Nat.le_of_ble_eq_true rfl) (xE Z.2.1 Z.2.2 ad D8 sav old hsz cs len g) (xE_id 1 (by decide)) ?_
              refine g_goto (tgt := 83) C dX5_ifAppended_73 (by decide) ?_
              obtain ⟨rfl, rfl⟩ := gs2 h
              exact g_iret C e dX5_ifAppended_83
          · replace h := gi_pos c10 h
            refine g_iload C dX5_ifAppended_57 0 rfl ?_
            obtain ⟨rfl, rfl⟩ := gs2 h
            exact g_iret C e dX5_ifAppended_59
      · replace h := gi_neg c4 h
        refine g_bipush (v := (-2)) C dX5_ifAppended_22 (by decide) ?_
        obtain ⟨rfl, rfl⟩ := gs2 h
        exact g_iret C e dX5_ifAppended_24
  · replace h := gi_pos c2 h
    refine g_iconst (v := (-1)) C dX5_ifAppended_11 (by decide) ?_
    obtain ⟨rfl, rfl⟩ := gs2 h
    exact g_iret C e dX5_ifAppended_12
abbrev rm_X5_room : Room := ({ frames := 3, cells := 0, slots := 0, locals := 63 } : Room)
def f_X5_room (D : Nat → Nat → Nat → Int32) (sav : Int32) (old : Int32) (hsz : Int32) (cs : Nat → Int32) (len : Int32) (g : Nat → Int32) (v1 : Int32) : Option Int32 := gb (f_X0_isFile (D 0) v1) (fun r1 => if r1 = 0 then some (-1) else gb (f_X0_isOpen (D 0) v1) (fun r3 => if r3 = 0 then some (-4) else gb (f_X0_blocksWithoutData (D 0)) (fun r5 => some r5)))
set_option maxRecDepth 20000 in
theorem in_X5_room : ∀ w ∈ wsX50, w ∈ wsX5_room := by decide +kernel
set_option maxRecDepth 20000 in
theorem fl_X5_room_10 : Cond.fieldLink RX5 10 (TX5 0).1 (TX5 0).2.1 (TX5 0).2.2.1 ∈ wsX5_room := by decide +kernel
set_option maxHeartbeats 4000000 in
set_option maxRecDepth 100000 in
theorem cn_X5_room (l : Launch) (Z : gZ) (ad : Nat → Nat) (hI : gInj 175 ad) (D : Nat → Nat → Nat → Int32) (sav : Int32) (old : Int32) (hsz : Int32) (cs : Nat → Int32) (len : Int32) (g : Nat → Int32) (v1 : Int32) {r : Int32} (h : f_X5_room D sav old hsz cs len g v1 = some r) : gI l yX5_room wsX5_room rm_X5_room Z 175 ad [.ref (ad 168), .int v1] (xE Z.2.1 Z.2.2 ad D sav old hsz cs len g) r (xE Z.2.1 Z.2.2 ad D sav old hsz cs len g) := by
  refine g_entryI (cc := cX5_room) (maxL := 2) (by decide +kernel) rfl hI (Nat.le_of_ble_eq_true rfl) (fun X C e => ?_)
  unfold f_X5_room at h
  show GG X Z 2 175 ad (xE Z.2.1 Z.2.2 ad D sav old hsz cs len g) 0 [(0, .ref (ad 168)), (1, .int v1)] []
  refine g_aload_n C dX5_room_0 0 rfl ?_
  refine g_getf (v := .ref (ad (21 * 0))) C 168 (by decide) rfl rfl in_X5_room 0 (by decide) fl_X5_room_10 rfl dX5_room_1 ?_
  refine g_iload_n C dX5_room_4 1 rfl ?_
  obtain ⟨r1, er1, h⟩ := gb1 h
  refine g_callVi (rest := []) C gX5_room_X0_isFile rfl ok_X0_isFile ⟨by decide, by decide⟩ ⟨rfl, rfl⟩ (21 * 0) 21 (by decide) (adc := fun i => ad ((21 * 0) + i)) (fun _ _ => rfl) (xE_dsk 0 (by decide)) 0 (by decide) rfl rfl (fun hI => cn_X0_isFile X.2.1 Z (fun i => ad ((21 * 0) + i)) hI (D 0) v1 er1) rfl dX5_room_5 rfl (Nat.le_of_ble_eq_true rfl) (xE Z.2.1 Z.2.2 ad D sav old hsz cs len g) (xE_id 0 (by decide)) ?_
  refine g_if_ne (tgt := 13) C dX5_room_8 (by decide) (fun c2 => ?_) (fun c2 => ?_)
  · replace h := gi_neg c2 h
    refine g_aload_n C dX5_room_13 0 rfl ?_
    refine g_getf (v := .ref (ad (21 * 0))) C 168 (by decide) rfl rfl in_X5_room 0 (by decide) fl_X5_room_10 rfl dX5_room_14 ?_
    refine g_iload_n C dX5_room_17 1 rfl ?_
    obtain ⟨r3, er3, h⟩ := gb1 h
    refine g_callVi (rest := []) C gX5_room_X0_isOpen rfl ok_X0_isOpen ⟨by decide, by decide⟩ ⟨rfl, rfl⟩ (21 * 0) 21 (by decide) (adc := fun i => ad ((21 * 0) + i)) (fun _ _ => rfl) (xE_dsk 0 (by decide)) 0 (by decide) rfl rfl (fun hI => cn_X0_isOpen X.2.1 Z (fun i => ad ((21 * 0) + i)) hI (D 0) v1 er3) rfl dX5_room_18 rfl (Nat.le_of_ble_eq_true rfl) (xE Z.2.1 Z.2.2 ad D sav old hsz cs len g) (xE_id 0 (by decide)) ?_
    refine g_if_eq (tgt := 34) C dX5_room_21 (by decide) (fun c4 => ?_) (fun c4 => ?_)
    · replace h := gi_pos c4 h
      refine g_bipush (v := (-4)) C dX5_room_34 (by decide) ?_
      obtain rfl := gs1 h
      exact g_iret C e dX5_room_36
    · replace h := gi_neg c4 h
      refine g_aload_n C dX5_room_24 0 rfl ?_
      refine g_getf (v := .ref (ad (21 * 0))) C 168 (by decide) rfl rfl in_X5_room 0 (by decide) fl_X5_room_10 rfl dX5_room_25 ?_
      obtain ⟨r5, er5, h⟩ := gb1 h
      refine g_callVi (rest := []) C gX5_room_X0_blocksWithoutData rfl ok_X0_blocksWithoutData ⟨by decide, by decide⟩ ⟨rfl, rfl⟩ (21 * 0) 21 (by decide) (adc := fun i => ad ((21 * 0) + i)) (fun _ _ => rfl) (xE_dsk 0 (by decide)) 0 (by decide) rfl rfl (fun hI => cn_X0_blocksWithoutData X.2.1 Z (fun i => ad ((21 * 0) + i)) hI (D 0)  er5) rfl dX5_room_28 rfl (Nat.le_of_ble_eq_true rfl) (xE Z.2.1 Z.2.2 ad D sav old hsz cs len g) (xE_id 0 (by decide)) ?_
      refine g_goto (tgt := 36) C dX5_room_31 (by decide) ?_
      obtain rfl := gs1 h
      exact g_iret C e dX5_room_36
  · replace h := gi_pos c2 h
    refine g_iconst (v := (-1)) C dX5_room_11 (by decide) ?_
    obtain rfl := gs1 h
    exact g_iret C e dX5_room_12
