set_option maxRecDepth 20000 in
theorem ggX1_init_X0_init : GoodIn wsX1_init wsX0_init := goodIn_r _ [12, 13, 2, 3, 14, 15, 16, 17, 18, 19, 20, 21, 22, 23, 24, 25, 26, 27, 28, 29, 30, 31, 32, 33, 34, 35, 36, 37, 38, 39, 40, 54, 44, 45, 46, 47, 48, 49, 50, 51, 52, 53] (by decide +kernel) (by decide +kernel)
set_option maxRecDepth 20000 in
theorem gX1_init_X0_init : GoodIn wsX1_init (wsX0_init) := ggX1_init_X0_init
theorem dX1_init_0 : decode cX1_init 0 = .ok (.aload_n 0, 1) := by decide +kernel
theorem dX1_init_1 : decode cX1_init 1 = .ok (.invokespecial 3, 3) := by decide +kernel
theorem dX1_init_4 : decode cX1_init 4 = .ok (.aload_n 0, 1) := by decide +kernel
theorem dX1_init_5 : decode cX1_init 5 = .ok (.iconst 5, 1) := by decide +kernel
theorem dX1_init_6 : decode cX1_init 6 = .ok (.anewarray 9, 3) := by decide +kernel
theorem dX1_init_9 : decode cX1_init 9 = .ok (.putfield 11, 3) := by decide +kernel
theorem dX1_init_12 : decode cX1_init 12 = .ok (.aload_n 0, 1) := by decide +kernel
theorem dX1_init_13 : decode cX1_init 13 = .ok (.iconst 0, 1) := by decide +kernel
theorem dX1_init_14 : decode cX1_init 14 = .ok (.putfield 17, 3) := by decide +kernel
theorem dX1_init_17 : decode cX1_init 17 = .ok (.aload_n 0, 1) := by decide +kernel
theorem dX1_init_18 : decode cX1_init 18 = .ok (.iconst 0, 1) := by decide +kernel
theorem dX1_init_19 : decode cX1_init 19 = .ok (.putfield 21, 3) := by decide +kernel
theorem dX1_init_22 : decode cX1_init 22 = .ok (.iconst 0, 1) := by decide +kernel
theorem dX1_init_23 : decode cX1_init 23 = .ok (.istore_n 1, 1) := by decide +kernel
theorem dX1_init_24 : decode cX1_init 24 = .ok (.iload_n 1, 1) := by decide +kernel
theorem dX1_init_25 : decode cX1_init 25 = .ok (.aload_n 0, 1) := by decide +kernel
theorem dX1_init_26 : decode cX1_init 26 = .ok (.getfield 11, 3) := by decide +kernel
theorem dX1_init_29 : decode cX1_init 29 = .ok (.arraylength, 1) := by decide +kernel
theorem dX1_init_30 : decode cX1_init 30 = .ok (.if_icmp .ge 22, 3) := by decide +kernel
theorem dX1_init_33 : decode cX1_init 33 = .ok (.aload_n 0, 1) := by decide +kernel
theorem dX1_init_34 : decode cX1_init 34 = .ok (.getfield 11, 3) := by decide +kernel
theorem dX1_init_37 : decode cX1_init 37 = .ok (.iload_n 1, 1) := by decide +kernel
theorem dX1_init_38 : decode cX1_init 38 = .ok (.new 9, 3) := by decide +kernel
theorem dX1_init_41 : decode cX1_init 41 = .ok (.dup, 1) := by decide +kernel
theorem dX1_init_42 : decode cX1_init 42 = .ok (.invokespecial 24, 3) := by decide +kernel
theorem dX1_init_45 : decode cX1_init 45 = .ok (.aastore, 1) := by decide +kernel
theorem dX1_init_46 : decode cX1_init 46 = .ok (.iinc 1 1, 3) := by decide +kernel
theorem dX1_init_49 : decode cX1_init 49 = .ok (.goto (-25), 3) := by decide +kernel
theorem dX1_init_52 : decode cX1_init 52 = .ok (.return_, 1) := by decide +kernel
theorem dX1_size_0 : decode cX1_size 0 = .ok (.aload_n 0, 1) := by decide +kernel
theorem dX1_size_1 : decode cX1_size 1 = .ok (.getfield 21, 3) := by decide +kernel
theorem dX1_size_4 : decode cX1_size 4 = .ok (.ireturn, 1) := by decide +kernel
set_option maxRecDepth 20000 in
theorem ggX1_record_X1_slotBehind : GoodIn wsX1_record wsX1_slotBehind := goodIn_r _ [7, 2, 8, 34, 35, 36] (by decide +kernel) (by decide +kernel)
set_option maxRecDepth 20000 in
theorem gX1_record_X1_slotBehind : GoodIn wsX1_record (wsV RX1 25 RX1 yX1_slotBehind wsX1_slotBehind) := goodIn_app (goodIn_of _ (by decide +kernel)) ggX1_record_X1_slotBehind
set_option maxRecDepth 20000 in
theorem ggX1_record_X0_copyFrom : GoodIn wsX1_record wsX0_copyFrom := goodIn_r _ [13, 14, 15, 16, 17, 18, 19, 20, 21, 22, 23, 24, 25, 26, 27, 28, 29, 30, 31, 32, 33, 37, 38, 39, 40, 41, 42, 43, 44, 45, 46, 47] (by decide +kernel) (by decide +kernel)
set_option maxRecDepth 20000 in
theorem gX1_record_X0_copyFrom : GoodIn wsX1_record (wsV RX1 29 RX0 yX0_copyFrom wsX0_copyFrom) := goodIn_app (goodIn_of _ (by decide +kernel)) ggX1_record_X0_copyFrom
theorem dX1_record_0 : decode cX1_record 0 = .ok (.aload_n 0, 1) := by decide +kernel
theorem dX1_record_1 : decode cX1_record 1 = .ok (.getfield 21, 3) := by decide +kernel
theorem dX1_record_4 : decode cX1_record 4 = .ok (.iconst 5, 1) := by decide +kernel
theorem dX1_record_5 : decode cX1_record 5 = .ok (.if_icmp .ne 25, 3) := by decide +kernel
theorem dX1_record_8 : decode cX1_record 8 = .ok (.aload_n 0, 1) := by decide +kernel
theorem dX1_record_9 : decode cX1_record 9 = .ok (.aload_n 0, 1) := by decide +kernel
theorem dX1_record_10 : decode cX1_record 10 = .ok (.getfield 17, 3) := by decide +kernel
theorem dX1_record_13 : decode cX1_record 13 = .ok (.iconst 1, 1) := by decide +kernel
theorem dX1_record_14 : decode cX1_record 14 = .ok (.iadd, 1) := by decide +kernel
theorem dX1_record_15 : decode cX1_record 15 = .ok (.iconst 5, 1) := by decide +kernel
theorem dX1_record_16 : decode cX1_record 16 = .ok (.irem, 1) := by decide +kernel
theorem dX1_record_17 : decode cX1_record 17 = .ok (.putfield 17, 3) := by decide +kernel
theorem dX1_record_20 : decode cX1_record 20 = .ok (.aload_n 0, 1) := by decide +kernel
theorem dX1_record_21 : decode cX1_record 21 = .ok (.dup, 1) := by decide +kernel
theorem dX1_record_22 : decode cX1_record 22 = .ok (.getfield 21, 3) := by decide +kernel
theorem dX1_record_25 : decode cX1_record 25 = .ok (.iconst 1, 1) := by decide +kernel
theorem dX1_record_26 : decode cX1_record 26 = .ok (.isub, 1) := by decide +kernel
theorem dX1_record_27 : decode cX1_record 27 = .ok (.putfield 21, 3) := by decide +kernel
theorem dX1_record_30 : decode cX1_record 30 = .ok (.aload_n 0, 1) := by decide +kernel
theorem dX1_record_31 : decode cX1_record 31 = .ok (.aload_n 0, 1) := by decide +kernel
theorem dX1_record_32 : decode cX1_record 32 = .ok (.getfield 21, 3) := by decide +kernel
theorem dX1_record_35 : decode cX1_record 35 = .ok (.invokevirtual 25, 3) := by decide +kernel
theorem dX1_record_38 : decode cX1_record 38 = .ok (.astore_n 2, 1) := by decide +kernel
theorem dX1_record_39 : decode cX1_record 39 = .ok (.aload_n 2, 1) := by decide +kernel
theorem dX1_record_40 : decode cX1_record 40 = .ok (.ifnull 18, 3) := by decide +kernel
theorem dX1_record_43 : decode cX1_record 43 = .ok (.aload_n 2, 1) := by decide +kernel
theorem dX1_record_44 : decode cX1_record 44 = .ok (.aload_n 1, 1) := by decide +kernel
theorem dX1_record_45 : decode cX1_record 45 = .ok (.invokevirtual 29, 3) := by decide +kernel
theorem dX1_record_48 : decode cX1_record 48 = .ok (.aload_n 0, 1) := by decide +kernel
theorem dX1_record_49 : decode cX1_record 49 = .ok (.dup, 1) := by decide +kernel
theorem dX1_record_50 : decode cX1_record 50 = .ok (.getfield 21, 3) := by decide +kernel
theorem dX1_record_53 : decode cX1_record 53 = .ok (.iconst 1, 1) := by decide +kernel
theorem dX1_record_54 : decode cX1_record 54 = .ok (.iadd, 1) := by decide +kernel
theorem dX1_record_55 : decode cX1_record 55 = .ok (.putfield 21, 3) := by decide +kernel
theorem dX1_record_58 : decode cX1_record 58 = .ok (.return_, 1) := by decide +kernel
set_option maxRecDepth 20000 in
theorem ggX1_takeLatest_X1_slotBehind : GoodIn wsX1_takeLatest wsX1_slotBehind := goodIn_r _ [6, 7, 8, 34, 35, 36] (by decide +kernel) (by decide +kernel)
set_option maxRecDepth 20000 in
theorem gX1_takeLatest_X1_slotBehind : GoodIn wsX1_takeLatest (wsV RX1 25 RX1 yX1_slotBehind wsX1_slotBehind) := goodIn_app (goodIn_of _ (by decide +kernel)) ggX1_takeLatest_X1_slotBehind
set_option maxRecDepth 20000 in
theorem ggX1_takeLatest_X0_copyFrom : GoodIn wsX1_takeLatest wsX0_copyFrom := goodIn_r _ [13, 14, 15, 16, 17, 18, 19, 20, 21, 22, 23, 24, 25, 26, 27, 28, 29, 30, 31, 32, 33, 37, 38, 39, 40, 41, 42, 43, 44, 45, 46, 47] (by decide +kernel) (by decide +kernel)
set_option maxRecDepth 20000 in
theorem gX1_takeLatest_X0_copyFrom : GoodIn wsX1_takeLatest (wsV RX1 29 RX0 yX0_copyFrom wsX0_copyFrom) := goodIn_app (goodIn_of _ (by decide +kernel)) ggX1_takeLatest_X0_copyFrom
theorem dX1_takeLatest_0 : decode cX1_takeLatest 0 = .ok (.aload_n 0, 1) := by decide +kernel
theorem dX1_takeLatest_1 : decode cX1_takeLatest 1 = .ok (.getfield 21, 3) := by decide +kernel
theorem dX1_takeLatest_4 : decode cX1_takeLatest 4 = .ok (.ifCond .le 16, 3) := by decide +kernel
theorem dX1_takeLatest_7 : decode cX1_takeLatest 7 = .ok (.aload_n 0, 1) := by decide +kernel
theorem dX1_takeLatest_8 : decode cX1_takeLatest 8 = .ok (.aload_n 0, 1) := by decide +kernel
theorem dX1_takeLatest_9 : decode cX1_takeLatest 9 = .ok (.getfield 21, 3) := by decide +kernel
theorem dX1_takeLatest_12 : decode cX1_takeLatest 12 = .ok (.iconst 1, 1) := by decide +kernel
theorem dX1_takeLatest_13 : decode cX1_takeLatest 13 = .ok (.isub, 1) := by decide +kernel
theorem dX1_takeLatest_14 : decode cX1_takeLatest 14 = .ok (.invokevirtual 25, 3) := by decide +kernel
theorem dX1_takeLatest_17 : decode cX1_takeLatest 17 = .ok (.goto 4, 3) := by decide +kernel
theorem dX1_takeLatest_20 : decode cX1_takeLatest 20 = .ok (.aconst_null, 1) := by decide +kernel
theorem dX1_takeLatest_21 : decode cX1_takeLatest 21 = .ok (.astore_n 2, 1) := by decide +kernel
theorem dX1_takeLatest_22 : decode cX1_takeLatest 22 = .ok (.aload_n 2, 1) := by decide +kernel
theorem dX1_takeLatest_23 : decode cX1_takeLatest 23 = .ok (.ifnonnull 5, 3) := by decide +kernel
theorem dX1_takeLatest_26 : decode cX1_takeLatest 26 = .ok (.iconst 0, 1) := by decide +kernel
theorem dX1_takeLatest_27 : decode cX1_takeLatest 27 = .ok (.ireturn, 1) := by decide +kernel
theorem dX1_takeLatest_28 : decode cX1_takeLatest 28 = .ok (.aload_n 1, 1) := by decide +kernel
theorem dX1_takeLatest_29 : decode cX1_takeLatest 29 = .ok (.aload_n 2, 1) := by decide +kernel
theorem dX1_takeLatest_30 : decode cX1_takeLatest 30 = .ok (.invokevirtual 29, 3) := by decide +kernel
theorem dX1_takeLatest_33 : decode cX1_takeLatest 33 = .ok (.aload_n 0, 1) := by decide +kernel
theorem dX1_takeLatest_34 : decode cX1_takeLatest 34 = .ok (.dup, 1) := by decide +kernel
theorem dX1_takeLatest_35 : decode cX1_takeLatest 35 = .ok (.getfield 21, 3) := by decide +kernel
theorem dX1_takeLatest_38 : decode cX1_takeLatest 38 = .ok (.iconst 1, 1) := by decide +kernel
theorem dX1_takeLatest_39 : decode cX1_takeLatest 39 = .ok (.isub, 1) := by decide +kernel
theorem dX1_takeLatest_40 : decode cX1_takeLatest 40 = .ok (.putfield 21, 3) := by decide +kernel
theorem dX1_takeLatest_43 : decode cX1_takeLatest 43 = .ok (.iconst 1, 1) := by decide +kernel
theorem dX1_takeLatest_44 : decode cX1_takeLatest 44 = .ok (.ireturn, 1) := by decide +kernel
theorem dX1_slotBehind_0 : decode cX1_slotBehind 0 = .ok (.aload_n 0, 1) := by decide +kernel
theorem dX1_slotBehind_1 : decode cX1_slotBehind 1 = .ok (.getfield 17, 3) := by decide +kernel
theorem dX1_slotBehind_4 : decode cX1_slotBehind 4 = .ok (.iload_n 1, 1) := by decide +kernel
theorem dX1_slotBehind_5 : decode cX1_slotBehind 5 = .ok (.iadd, 1) := by decide +kernel
theorem dX1_slotBehind_6 : decode cX1_slotBehind 6 = .ok (.iconst 5, 1) := by decide +kernel
theorem dX1_slotBehind_7 : decode cX1_slotBehind 7 = .ok (.irem, 1) := by decide +kernel
theorem dX1_slotBehind_8 : decode cX1_slotBehind 8 = .ok (.istore_n 2, 1) := by decide +kernel
theorem dX1_slotBehind_9 : decode cX1_slotBehind 9 = .ok (.iload_n 2, 1) := by decide +kernel
theorem dX1_slotBehind_10 : decode cX1_slotBehind 10 = .ok (.ifCond .lt 21, 3) := by decide +kernel
theorem dX1_slotBehind_13 : decode cX1_slotBehind 13 = .ok (.iload_n 2, 1) := by decide +kernel
theorem dX1_slotBehind_14 : decode cX1_slotBehind 14 = .ok (.aload_n 0, 1) := by decide +kernel
theorem dX1_slotBehind_15 : decode cX1_slotBehind 15 = .ok (.getfield 11, 3) := by decide +kernel
theorem dX1_slotBehind_18 : decode cX1_slotBehind 18 = .ok (.arraylength, 1) := by decide +kernel
theorem dX1_slotBehind_19 : decode cX1_slotBehind 19 = .ok (.if_icmp .ge 12, 3) := by decide +kernel
theorem dX1_slotBehind_22 : decode cX1_slotBehind 22 = .ok (.aload_n 0, 1) := by decide +kernel
theorem dX1_slotBehind_23 : decode cX1_slotBehind 23 = .ok (.getfield 11, 3) := by decide +kernel
theorem dX1_slotBehind_26 : decode cX1_slotBehind 26 = .ok (.iload_n 2, 1) := by decide +kernel
theorem dX1_slotBehind_27 : decode cX1_slotBehind 27 = .ok (.aaload, 1) := by decide +kernel
theorem dX1_slotBehind_28 : decode cX1_slotBehind 28 = .ok (.goto 4, 3) := by decide +kernel
theorem dX1_slotBehind_31 : decode cX1_slotBehind 31 = .ok (.aconst_null, 1) := by decide +kernel
theorem dX1_slotBehind_32 : decode cX1_slotBehind 32 = .ok (.areturn, 1) := by decide +kernel
