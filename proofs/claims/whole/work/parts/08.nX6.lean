theorem dX6_init_0 : decode cX6_init 0 = .ok (.aload_n 0, 1) := by decide +kernel
theorem dX6_init_1 : decode cX6_init 1 = .ok (.invokespecial 1, 3) := by decide +kernel
theorem dX6_init_4 : decode cX6_init 4 = .ok (.aload_n 0, 1) := by decide +kernel
theorem dX6_init_5 : decode cX6_init 5 = .ok (.sipush 1968, 3) := by decide +kernel
theorem dX6_init_8 : decode cX6_init 8 = .ok (.newarray .int, 2) := by decide +kernel
theorem dX6_init_10 : decode cX6_init 10 = .ok (.putfield 7, 3) := by decide +kernel
theorem dX6_init_13 : decode cX6_init 13 = .ok (.aload_n 0, 1) := by decide +kernel
theorem dX6_init_14 : decode cX6_init 14 = .ok (.bipush 80, 2) := by decide +kernel
theorem dX6_init_16 : decode cX6_init 16 = .ok (.newarray .int, 2) := by decide +kernel
theorem dX6_init_18 : decode cX6_init 18 = .ok (.putfield 13, 3) := by decide +kernel
theorem dX6_init_21 : decode cX6_init 21 = .ok (.iconst 0, 1) := by decide +kernel
theorem dX6_init_22 : decode cX6_init 22 = .ok (.istore_n 1, 1) := by decide +kernel
theorem dX6_init_23 : decode cX6_init 23 = .ok (.iload_n 1, 1) := by decide +kernel
theorem dX6_init_24 : decode cX6_init 24 = .ok (.bipush 64, 2) := by decide +kernel
theorem dX6_init_26 : decode cX6_init 26 = .ok (.if_icmp .ge 20, 3) := by decide +kernel
theorem dX6_init_29 : decode cX6_init 29 = .ok (.aload_n 0, 1) := by decide +kernel
theorem dX6_init_30 : decode cX6_init 30 = .ok (.getfield 7, 3) := by decide +kernel
theorem dX6_init_33 : decode cX6_init 33 = .ok (.bipush 64, 2) := by decide +kernel
theorem dX6_init_35 : decode cX6_init 35 = .ok (.iload_n 1, 1) := by decide +kernel
theorem dX6_init_36 : decode cX6_init 36 = .ok (.iadd, 1) := by decide +kernel
theorem dX6_init_37 : decode cX6_init 37 = .ok (.bipush (-5), 2) := by decide +kernel
theorem dX6_init_39 : decode cX6_init 39 = .ok (.iastore, 1) := by decide +kernel
theorem dX6_init_40 : decode cX6_init 40 = .ok (.iinc 1 1, 3) := by decide +kernel
theorem dX6_init_43 : decode cX6_init 43 = .ok (.goto (-20), 3) := by decide +kernel
theorem dX6_init_46 : decode cX6_init 46 = .ok (.aload_n 0, 1) := by decide +kernel
theorem dX6_init_47 : decode cX6_init 47 = .ok (.getfield 7, 3) := by decide +kernel
theorem dX6_init_50 : decode cX6_init 50 = .ok (.sipush 240, 3) := by decide +kernel
theorem dX6_init_53 : decode cX6_init 53 = .ok (.bipush 8, 2) := by decide +kernel
theorem dX6_init_55 : decode cX6_init 55 = .ok (.iastore, 1) := by decide +kernel
theorem dX6_init_56 : decode cX6_init 56 = .ok (.return_, 1) := by decide +kernel
theorem dX6_in_0 : decode cX6_in 0 = .ok (.iload_n 0, 1) := by decide +kernel
theorem dX6_in_1 : decode cX6_in 1 = .ok (.iload_n 1, 1) := by decide +kernel
theorem dX6_in_2 : decode cX6_in 2 = .ok (.if_icmp .lt 12, 3) := by decide +kernel
theorem dX6_in_5 : decode cX6_in 5 = .ok (.iload_n 0, 1) := by decide +kernel
theorem dX6_in_6 : decode cX6_in 6 = .ok (.iload_n 2, 1) := by decide +kernel
theorem dX6_in_7 : decode cX6_in 7 = .ok (.if_icmp .gt 7, 3) := by decide +kernel
theorem dX6_in_10 : decode cX6_in 10 = .ok (.iconst 1, 1) := by decide +kernel
theorem dX6_in_11 : decode cX6_in 11 = .ok (.goto 4, 3) := by decide +kernel
theorem dX6_in_14 : decode cX6_in 14 = .ok (.iconst 0, 1) := by decide +kernel
theorem dX6_in_15 : decode cX6_in 15 = .ok (.ireturn, 1) := by decide +kernel
theorem dX6_flag_0 : decode cX6_flag 0 = .ok (.iload_n 0, 1) := by decide +kernel
theorem dX6_flag_1 : decode cX6_flag 1 = .ok (.ifCond .eq 7, 3) := by decide +kernel
theorem dX6_flag_4 : decode cX6_flag 4 = .ok (.iconst 1, 1) := by decide +kernel
theorem dX6_flag_5 : decode cX6_flag 5 = .ok (.goto 4, 3) := by decide +kernel
theorem dX6_flag_8 : decode cX6_flag 8 = .ok (.iconst 0, 1) := by decide +kernel
theorem dX6_flag_9 : decode cX6_flag 9 = .ok (.ireturn, 1) := by decide +kernel
theorem dX6_copies_0 : decode cX6_copies 0 = .ok (.iconst 0, 1) := by decide +kernel
theorem dX6_copies_1 : decode cX6_copies 1 = .ok (.istore_n 3, 1) := by decide +kernel
theorem dX6_copies_2 : decode cX6_copies 2 = .ok (.iload_n 3, 1) := by decide +kernel
theorem dX6_copies_3 : decode cX6_copies 3 = .ok (.sipush 246, 3) := by decide +kernel
theorem dX6_copies_6 : decode cX6_copies 6 = .ok (.if_icmp .ge 33, 3) := by decide +kernel
theorem dX6_copies_9 : decode cX6_copies 9 = .ok (.aload_n 0, 1) := by decide +kernel
theorem dX6_copies_10 : decode cX6_copies 10 = .ok (.getfield 7, 3) := by decide +kernel
theorem dX6_copies_13 : decode cX6_copies 13 = .ok (.sipush 246, 3) := by decide +kernel
theorem dX6_copies_16 : decode cX6_copies 16 = .ok (.iload_n 2, 1) := by decide +kernel
theorem dX6_copies_17 : decode cX6_copies 17 = .ok (.imul, 1) := by decide +kernel
theorem dX6_copies_18 : decode cX6_copies 18 = .ok (.iload_n 3, 1) := by decide +kernel
theorem dX6_copies_19 : decode cX6_copies 19 = .ok (.iadd, 1) := by decide +kernel
theorem dX6_copies_20 : decode cX6_copies 20 = .ok (.aload_n 0, 1) := by decide +kernel
theorem dX6_copies_21 : decode cX6_copies 21 = .ok (.getfield 7, 3) := by decide +kernel
theorem dX6_copies_24 : decode cX6_copies 24 = .ok (.sipush 246, 3) := by decide +kernel
theorem dX6_copies_27 : decode cX6_copies 27 = .ok (.iload_n 1, 1) := by decide +kernel
theorem dX6_copies_28 : decode cX6_copies 28 = .ok (.imul, 1) := by decide +kernel
theorem dX6_copies_29 : decode cX6_copies 29 = .ok (.iload_n 3, 1) := by decide +kernel
theorem dX6_copies_30 : decode cX6_copies 30 = .ok (.iadd, 1) := by decide +kernel
theorem dX6_copies_31 : decode cX6_copies 31 = .ok (.iaload, 1) := by decide +kernel
theorem dX6_copies_32 : decode cX6_copies 32 = .ok (.iastore, 1) := by decide +kernel
theorem dX6_copies_33 : decode cX6_copies 33 = .ok (.iinc 3 1, 3) := by decide +kernel
theorem dX6_copies_36 : decode cX6_copies 36 = .ok (.goto (-34), 3) := by decide +kernel
theorem dX6_copies_39 : decode cX6_copies 39 = .ok (.return_, 1) := by decide +kernel
set_option maxRecDepth 20000 in
theorem ggX6_records_X6_copies : GoodIn wsX6_records wsX6_copies := goodIn_r _ [6, 7, 8, 9, 10, 11, 12, 13, 14, 15, 16, 17] (by decide +kernel) (by decide +kernel)
set_option maxRecDepth 20000 in
theorem gX6_records_X6_copies : GoodIn wsX6_records (wsV RX6 20 RX6 yX6_copies wsX6_copies) := goodIn_app (goodIn_of _ (by decide +kernel)) ggX6_records_X6_copies
theorem dX6_records_0 : decode cX6_records 0 = .ok (.aload_n 0, 1) := by decide +kernel
theorem dX6_records_1 : decode cX6_records 1 = .ok (.getfield 16, 3) := by decide +kernel
theorem dX6_records_4 : decode cX6_records 4 = .ok (.iconst 5, 1) := by decide +kernel
theorem dX6_records_5 : decode cX6_records 5 = .ok (.if_icmp .ne 34, 3) := by decide +kernel
theorem dX6_records_8 : decode cX6_records 8 = .ok (.iconst 1, 1) := by decide +kernel
theorem dX6_records_9 : decode cX6_records 9 = .ok (.istore_n 1, 1) := by decide +kernel
theorem dX6_records_10 : decode cX6_records 10 = .ok (.iload_n 1, 1) := by decide +kernel
theorem dX6_records_11 : decode cX6_records 11 = .ok (.iconst 5, 1) := by decide +kernel
theorem dX6_records_12 : decode cX6_records 12 = .ok (.if_icmp .ge 17, 3) := by decide +kernel
theorem dX6_records_15 : decode cX6_records 15 = .ok (.aload_n 0, 1) := by decide +kernel
theorem dX6_records_16 : decode cX6_records 16 = .ok (.iload_n 1, 1) := by decide +kernel
theorem dX6_records_17 : decode cX6_records 17 = .ok (.iconst 1, 1) := by decide +kernel
theorem dX6_records_18 : decode cX6_records 18 = .ok (.iadd, 1) := by decide +kernel
theorem dX6_records_19 : decode cX6_records 19 = .ok (.iload_n 1, 1) := by decide +kernel
theorem dX6_records_20 : decode cX6_records 20 = .ok (.invokevirtual 20, 3) := by decide +kernel
theorem dX6_records_23 : decode cX6_records 23 = .ok (.iinc 1 1, 3) := by decide +kernel
theorem dX6_records_26 : decode cX6_records 26 = .ok (.goto (-16), 3) := by decide +kernel
theorem dX6_records_29 : decode cX6_records 29 = .ok (.aload_n 0, 1) := by decide +kernel
theorem dX6_records_30 : decode cX6_records 30 = .ok (.dup, 1) := by decide +kernel
theorem dX6_records_31 : decode cX6_records 31 = .ok (.getfield 16, 3) := by decide +kernel
theorem dX6_records_34 : decode cX6_records 34 = .ok (.iconst 1, 1) := by decide +kernel
theorem dX6_records_35 : decode cX6_records 35 = .ok (.isub, 1) := by decide +kernel
theorem dX6_records_36 : decode cX6_records 36 = .ok (.putfield 16, 3) := by decide +kernel
theorem dX6_records_39 : decode cX6_records 39 = .ok (.aload_n 0, 1) := by decide +kernel
theorem dX6_records_40 : decode cX6_records 40 = .ok (.dup, 1) := by decide +kernel
theorem dX6_records_41 : decode cX6_records 41 = .ok (.getfield 16, 3) := by decide +kernel
theorem dX6_records_44 : decode cX6_records 44 = .ok (.iconst 1, 1) := by decide +kernel
theorem dX6_records_45 : decode cX6_records 45 = .ok (.iadd, 1) := by decide +kernel
theorem dX6_records_46 : decode cX6_records 46 = .ok (.putfield 16, 3) := by decide +kernel
theorem dX6_records_49 : decode cX6_records 49 = .ok (.aload_n 0, 1) := by decide +kernel
theorem dX6_records_50 : decode cX6_records 50 = .ok (.iconst 0, 1) := by decide +kernel
theorem dX6_records_51 : decode cX6_records 51 = .ok (.aload_n 0, 1) := by decide +kernel
theorem dX6_records_52 : decode cX6_records 52 = .ok (.getfield 16, 3) := by decide +kernel
theorem dX6_records_55 : decode cX6_records 55 = .ok (.invokevirtual 20, 3) := by decide +kernel
theorem dX6_records_58 : decode cX6_records 58 = .ok (.return_, 1) := by decide +kernel
theorem dX6_at_0 : decode cX6_at 0 = .ok (.iload_n 0, 1) := by decide +kernel
theorem dX6_at_1 : decode cX6_at 1 = .ok (.sipush 192, 3) := by decide +kernel
theorem dX6_at_4 : decode cX6_at 4 = .ok (.iadd, 1) := by decide +kernel
theorem dX6_at_5 : decode cX6_at 5 = .ok (.bipush 6, 2) := by decide +kernel
theorem dX6_at_7 : decode cX6_at 7 = .ok (.iload_n 1, 1) := by decide +kernel
theorem dX6_at_8 : decode cX6_at 8 = .ok (.imul, 1) := by decide +kernel
theorem dX6_at_9 : decode cX6_at 9 = .ok (.iadd, 1) := by decide +kernel
theorem dX6_at_10 : decode cX6_at 10 = .ok (.ireturn, 1) := by decide +kernel
set_option maxRecDepth 20000 in
theorem ggX6_isThere_X6_in : GoodIn wsX6_isThere wsX6_in := goodIn_r _ [5] (by decide +kernel) (by decide +kernel)
set_option maxRecDepth 20000 in
theorem gX6_isThere_X6_in : GoodIn wsX6_isThere (va_wsS RX6 24 yX6_in wsX6_in) := goodIn_app (goodIn_of _ (by decide +kernel)) ggX6_isThere_X6_in
set_option maxRecDepth 20000 in
theorem ggX6_isThere_X6_at : GoodIn wsX6_isThere wsX6_at := goodIn_r _ [8] (by decide +kernel) (by decide +kernel)
set_option maxRecDepth 20000 in
theorem gX6_isThere_X6_at : GoodIn wsX6_isThere (va_wsS RX6 28 yX6_at wsX6_at) := goodIn_app (goodIn_of _ (by decide +kernel)) ggX6_isThere_X6_at
theorem dX6_isThere_0 : decode cX6_isThere 0 = .ok (.iload_n 1, 1) := by decide +kernel
theorem dX6_isThere_1 : decode cX6_isThere 1 = .ok (.iconst 0, 1) := by decide +kernel
theorem dX6_isThere_2 : decode cX6_isThere 2 = .ok (.bipush 7, 2) := by decide +kernel
theorem dX6_isThere_4 : decode cX6_isThere 4 = .ok (.invokestatic 24, 3) := by decide +kernel
theorem dX6_isThere_7 : decode cX6_isThere 7 = .ok (.ifCond .eq 21, 3) := by decide +kernel
theorem dX6_isThere_10 : decode cX6_isThere 10 = .ok (.aload_n 0, 1) := by decide +kernel
theorem dX6_isThere_11 : decode cX6_isThere 11 = .ok (.getfield 7, 3) := by decide +kernel
theorem dX6_isThere_14 : decode cX6_isThere 14 = .ok (.iconst 0, 1) := by decide +kernel
theorem dX6_isThere_15 : decode cX6_isThere 15 = .ok (.iload_n 1, 1) := by decide +kernel
theorem dX6_isThere_16 : decode cX6_isThere 16 = .ok (.invokestatic 28, 3) := by decide +kernel
theorem dX6_isThere_19 : decode cX6_isThere 19 = .ok (.iaload, 1) := by decide +kernel
theorem dX6_isThere_20 : decode cX6_isThere 20 = .ok (.iconst 1, 1) := by decide +kernel
theorem dX6_isThere_21 : decode cX6_isThere 21 = .ok (.if_icmp .ne 7, 3) := by decide +kernel
theorem dX6_isThere_24 : decode cX6_isThere 24 = .ok (.iconst 1, 1) := by decide +kernel
theorem dX6_isThere_25 : decode cX6_isThere 25 = .ok (.goto 4, 3) := by decide +kernel
theorem dX6_isThere_28 : decode cX6_isThere 28 = .ok (.iconst 0, 1) := by decide +kernel
theorem dX6_isThere_29 : decode cX6_isThere 29 = .ok (.ireturn, 1) := by decide +kernel
set_option maxRecDepth 20000 in
theorem ggX6_isOpen_X6_at : GoodIn wsX6_isOpen wsX6_at := goodIn_r _ [5] (by decide +kernel) (by decide +kernel)
set_option maxRecDepth 20000 in
theorem gX6_isOpen_X6_at : GoodIn wsX6_isOpen (va_wsS RX6 28 yX6_at wsX6_at) := goodIn_app (goodIn_of _ (by decide +kernel)) ggX6_isOpen_X6_at
theorem dX6_isOpen_0 : decode cX6_isOpen 0 = .ok (.aload_n 0, 1) := by decide +kernel
theorem dX6_isOpen_1 : decode cX6_isOpen 1 = .ok (.getfield 7, 3) := by decide +kernel
theorem dX6_isOpen_4 : decode cX6_isOpen 4 = .ok (.iconst 0, 1) := by decide +kernel
theorem dX6_isOpen_5 : decode cX6_isOpen 5 = .ok (.iload_n 1, 1) := by decide +kernel
theorem dX6_isOpen_6 : decode cX6_isOpen 6 = .ok (.invokestatic 28, 3) := by decide +kernel
theorem dX6_isOpen_9 : decode cX6_isOpen 9 = .ok (.iconst 4, 1) := by decide +kernel
theorem dX6_isOpen_10 : decode cX6_isOpen 10 = .ok (.iadd, 1) := by decide +kernel
theorem dX6_isOpen_11 : decode cX6_isOpen 11 = .ok (.iaload, 1) := by decide +kernel
theorem dX6_isOpen_12 : decode cX6_isOpen 12 = .ok (.iconst 1, 1) := by decide +kernel
theorem dX6_isOpen_13 : decode cX6_isOpen 13 = .ok (.if_icmp .ne 7, 3) := by decide +kernel
theorem dX6_isOpen_16 : decode cX6_isOpen 16 = .ok (.iconst 1, 1) := by decide +kernel
theorem dX6_isOpen_17 : decode cX6_isOpen 17 = .ok (.goto 4, 3) := by decide +kernel
theorem dX6_isOpen_20 : decode cX6_isOpen 20 = .ok (.iconst 0, 1) := by decide +kernel
theorem dX6_isOpen_21 : decode cX6_isOpen 21 = .ok (.ireturn, 1) := by decide +kernel
set_option maxRecDepth 20000 in
theorem ggX6_lent_X6_at : GoodIn wsX6_lent wsX6_at := goodIn_r _ [5] (by decide +kernel) (by decide +kernel)
set_option maxRecDepth 20000 in
theorem gX6_lent_X6_at : GoodIn wsX6_lent (va_wsS RX6 28 yX6_at wsX6_at) := goodIn_app (goodIn_of _ (by decide +kernel)) ggX6_lent_X6_at
theorem dX6_lent_0 : decode cX6_lent 0 = .ok (.iload_n 1, 1) := by decide +kernel
theorem dX6_lent_1 : decode cX6_lent 1 = .ok (.iload_n 2, 1) := by decide +kernel
theorem dX6_lent_2 : decode cX6_lent 2 = .ok (.invokestatic 28, 3) := by decide +kernel
theorem dX6_lent_5 : decode cX6_lent 5 = .ok (.istore_n 3, 1) := by decide +kernel
theorem dX6_lent_6 : decode cX6_lent 6 = .ok (.aload_n 0, 1) := by decide +kernel
theorem dX6_lent_7 : decode cX6_lent 7 = .ok (.getfield 7, 3) := by decide +kernel
theorem dX6_lent_10 : decode cX6_lent 10 = .ok (.iload_n 3, 1) := by decide +kernel
theorem dX6_lent_11 : decode cX6_lent 11 = .ok (.iaload, 1) := by decide +kernel
theorem dX6_lent_12 : decode cX6_lent 12 = .ok (.iconst 1, 1) := by decide +kernel
theorem dX6_lent_13 : decode cX6_lent 13 = .ok (.if_icmp .ne 23, 3) := by decide +kernel
theorem dX6_lent_16 : decode cX6_lent 16 = .ok (.aload_n 0, 1) := by decide +kernel
theorem dX6_lent_17 : decode cX6_lent 17 = .ok (.getfield 7, 3) := by decide +kernel
theorem dX6_lent_20 : decode cX6_lent 20 = .ok (.iload_n 3, 1) := by decide +kernel
theorem dX6_lent_21 : decode cX6_lent 21 = .ok (.iconst 1, 1) := by decide +kernel
theorem dX6_lent_22 : decode cX6_lent 22 = .ok (.iadd, 1) := by decide +kernel
theorem dX6_lent_23 : decode cX6_lent 23 = .ok (.iaload, 1) := by decide +kernel
theorem dX6_lent_24 : decode cX6_lent 24 = .ok (.aload_n 0, 1) := by decide +kernel
theorem dX6_lent_25 : decode cX6_lent 25 = .ok (.getfield 7, 3) := by decide +kernel
theorem dX6_lent_28 : decode cX6_lent 28 = .ok (.iload_n 3, 1) := by decide +kernel
theorem dX6_lent_29 : decode cX6_lent 29 = .ok (.iconst 2, 1) := by decide +kernel
theorem dX6_lent_30 : decode cX6_lent 30 = .ok (.iadd, 1) := by decide +kernel
theorem dX6_lent_31 : decode cX6_lent 31 = .ok (.iaload, 1) := by decide +kernel
theorem dX6_lent_32 : decode cX6_lent 32 = .ok (.isub, 1) := by decide +kernel
theorem dX6_lent_33 : decode cX6_lent 33 = .ok (.goto 4, 3) := by decide +kernel
theorem dX6_lent_36 : decode cX6_lent 36 = .ok (.iconst 0, 1) := by decide +kernel
theorem dX6_lent_37 : decode cX6_lent 37 = .ok (.ireturn, 1) := by decide +kernel
theorem dX6_isFree_0 : decode cX6_isFree 0 = .ok (.iload_n 2, 1) := by decide +kernel
theorem dX6_isFree_1 : decode cX6_isFree 1 = .ok (.bipush 64, 2) := by decide +kernel
theorem dX6_isFree_3 : decode cX6_isFree 3 = .ok (.if_icmp .ge 23, 3) := by decide +kernel
theorem dX6_isFree_6 : decode cX6_isFree 6 = .ok (.aload_n 0, 1) := by decide +kernel
theorem dX6_isFree_7 : decode cX6_isFree 7 = .ok (.getfield 7, 3) := by decide +kernel
theorem dX6_isFree_10 : decode cX6_isFree 10 = .ok (.iload_n 1, 1) := by decide +kernel
theorem dX6_isFree_11 : decode cX6_isFree 11 = .ok (.bipush 64, 2) := by decide +kernel
theorem dX6_isFree_13 : decode cX6_isFree 13 = .ok (.iadd, 1) := by decide +kernel
theorem dX6_isFree_14 : decode cX6_isFree 14 = .ok (.iload_n 2, 1) := by decide +kernel
theorem dX6_isFree_15 : decode cX6_isFree 15 = .ok (.iadd, 1) := by decide +kernel
theorem dX6_isFree_16 : decode cX6_isFree 16 = .ok (.iaload, 1) := by decide +kernel
theorem dX6_isFree_17 : decode cX6_isFree 17 = .ok (.bipush (-5), 2) := by decide +kernel
theorem dX6_isFree_19 : decode cX6_isFree 19 = .ok (.if_icmp .ne 7, 3) := by decide +kernel
theorem dX6_isFree_22 : decode cX6_isFree 22 = .ok (.iconst 1, 1) := by decide +kernel
theorem dX6_isFree_23 : decode cX6_isFree 23 = .ok (.goto 4, 3) := by decide +kernel
theorem dX6_isFree_26 : decode cX6_isFree 26 = .ok (.iconst 0, 1) := by decide +kernel
theorem dX6_isFree_27 : decode cX6_isFree 27 = .ok (.ireturn, 1) := by decide +kernel
set_option maxRecDepth 20000 in
theorem ggX6_free_X6_isFree : GoodIn wsX6_free wsX6_isFree := goodIn_r _ [5, 6, 10, 11, 12, 13, 14, 15, 16, 17, 18, 19] (by decide +kernel) (by decide +kernel)
set_option maxRecDepth 20000 in
theorem gX6_free_X6_isFree : GoodIn wsX6_free (wsV RX6 32 RX6 yX6_isFree wsX6_isFree) := goodIn_app (goodIn_of _ (by decide +kernel)) ggX6_free_X6_isFree
set_option maxRecDepth 20000 in
theorem ggX6_free_X6_flag : GoodIn wsX6_free wsX6_flag := goodIn_r _ [9] (by decide +kernel) (by decide +kernel)
set_option maxRecDepth 20000 in
theorem gX6_free_X6_flag : GoodIn wsX6_free (va_wsS RX6 36 yX6_flag wsX6_flag) := goodIn_app (goodIn_of _ (by decide +kernel)) ggX6_free_X6_flag
theorem dX6_free_0 : decode cX6_free 0 = .ok (.iconst 0, 1) := by decide +kernel
theorem dX6_free_1 : decode cX6_free 1 = .ok (.istore_n 2, 1) := by decide +kernel
theorem dX6_free_2 : decode cX6_free 2 = .ok (.iconst 0, 1) := by decide +kernel
theorem dX6_free_3 : decode cX6_free 3 = .ok (.istore_n 3, 1) := by decide +kernel
theorem dX6_free_4 : decode cX6_free 4 = .ok (.iload_n 3, 1) := by decide +kernel
theorem dX6_free_5 : decode cX6_free 5 = .ok (.bipush 64, 2) := by decide +kernel
theorem dX6_free_7 : decode cX6_free 7 = .ok (.if_icmp .ge 21, 3) := by decide +kernel
theorem dX6_free_10 : decode cX6_free 10 = .ok (.iload_n 2, 1) := by decide +kernel
theorem dX6_free_11 : decode cX6_free 11 = .ok (.aload_n 0, 1) := by decide +kernel
theorem dX6_free_12 : decode cX6_free 12 = .ok (.iload_n 1, 1) := by decide +kernel
theorem dX6_free_13 : decode cX6_free 13 = .ok (.iload_n 3, 1) := by decide +kernel
theorem dX6_free_14 : decode cX6_free 14 = .ok (.invokevirtual 32, 3) := by decide +kernel
theorem dX6_free_17 : decode cX6_free 17 = .ok (.invokestatic 36, 3) := by decide +kernel
theorem dX6_free_20 : decode cX6_free 20 = .ok (.iadd, 1) := by decide +kernel
theorem dX6_free_21 : decode cX6_free 21 = .ok (.istore_n 2, 1) := by decide +kernel
theorem dX6_free_22 : decode cX6_free 22 = .ok (.iinc 3 1, 3) := by decide +kernel
theorem dX6_free_25 : decode cX6_free 25 = .ok (.goto (-21), 3) := by decide +kernel
theorem dX6_free_28 : decode cX6_free 28 = .ok (.iload_n 2, 1) := by decide +kernel
theorem dX6_free_29 : decode cX6_free 29 = .ok (.ireturn, 1) := by decide +kernel
theorem dX6_blockOf_0 : decode cX6_blockOf 0 = .ok (.bipush (-5), 2) := by decide +kernel
theorem dX6_blockOf_2 : decode cX6_blockOf 2 = .ok (.istore 4, 2) := by decide +kernel
theorem dX6_blockOf_4 : decode cX6_blockOf 4 = .ok (.iconst 0, 1) := by decide +kernel
theorem dX6_blockOf_5 : decode cX6_blockOf 5 = .ok (.istore 5, 2) := by decide +kernel
theorem dX6_blockOf_7 : decode cX6_blockOf 7 = .ok (.iload 5, 2) := by decide +kernel
theorem dX6_blockOf_9 : decode cX6_blockOf 9 = .ok (.bipush 64, 2) := by decide +kernel
theorem dX6_blockOf_11 : decode cX6_blockOf 11 = .ok (.if_icmp .ge 51, 3) := by decide +kernel
theorem dX6_blockOf_14 : decode cX6_blockOf 14 = .ok (.aload_n 0, 1) := by decide +kernel
theorem dX6_blockOf_15 : decode cX6_blockOf 15 = .ok (.getfield 7, 3) := by decide +kernel
theorem dX6_blockOf_18 : decode cX6_blockOf 18 = .ok (.iload_n 1, 1) := by decide +kernel
theorem dX6_blockOf_19 : decode cX6_blockOf 19 = .ok (.bipush 64, 2) := by decide +kernel
theorem dX6_blockOf_21 : decode cX6_blockOf 21 = .ok (.iadd, 1) := by decide +kernel
theorem dX6_blockOf_22 : decode cX6_blockOf 22 = .ok (.iload 5, 2) := by decide +kernel
theorem dX6_blockOf_24 : decode cX6_blockOf 24 = .ok (.iadd, 1) := by decide +kernel
theorem dX6_blockOf_25 : decode cX6_blockOf 25 = .ok (.iaload, 1) := by decide +kernel
theorem dX6_blockOf_26 : decode cX6_blockOf 26 = .ok (.iload_n 2, 1) := by decide +kernel
theorem dX6_blockOf_27 : decode cX6_blockOf 27 = .ok (.if_icmp .ne 25, 3) := by decide +kernel
theorem dX6_blockOf_30 : decode cX6_blockOf 30 = .ok (.aload_n 0, 1) := by decide +kernel
theorem dX6_blockOf_31 : decode cX6_blockOf 31 = .ok (.getfield 7, 3) := by decide +kernel
theorem dX6_blockOf_34 : decode cX6_blockOf 34 = .ok (.iload_n 1, 1) := by decide +kernel
theorem dX6_blockOf_35 : decode cX6_blockOf 35 = .ok (.sipush 128, 3) := by decide +kernel
theorem dX6_blockOf_38 : decode cX6_blockOf 38 = .ok (.iadd, 1) := by decide +kernel
theorem dX6_blockOf_39 : decode cX6_blockOf 39 = .ok (.iload 5, 2) := by decide +kernel
theorem dX6_blockOf_41 : decode cX6_blockOf 41 = .ok (.iadd, 1) := by decide +kernel
theorem dX6_blockOf_42 : decode cX6_blockOf 42 = .ok (.iaload, 1) := by decide +kernel
theorem dX6_blockOf_43 : decode cX6_blockOf 43 = .ok (.iload_n 3, 1) := by decide +kernel
theorem dX6_blockOf_44 : decode cX6_blockOf 44 = .ok (.if_icmp .ne 8, 3) := by decide +kernel
theorem dX6_blockOf_47 : decode cX6_blockOf 47 = .ok (.iload 5, 2) := by decide +kernel
theorem dX6_blockOf_49 : decode cX6_blockOf 49 = .ok (.goto 5, 3) := by decide +kernel
theorem dX6_blockOf_52 : decode cX6_blockOf 52 = .ok (.iload 4, 2) := by decide +kernel
theorem dX6_blockOf_54 : decode cX6_blockOf 54 = .ok (.istore 4, 2) := by decide +kernel
theorem dX6_blockOf_56 : decode cX6_blockOf 56 = .ok (.iinc 5 1, 3) := by decide +kernel
theorem dX6_blockOf_59 : decode cX6_blockOf 59 = .ok (.goto (-52), 3) := by decide +kernel
theorem dX6_blockOf_62 : decode cX6_blockOf 62 = .ok (.iload 4, 2) := by decide +kernel
theorem dX6_blockOf_64 : decode cX6_blockOf 64 = .ok (.ireturn, 1) := by decide +kernel
set_option maxRecDepth 20000 in
theorem ggX6_extents_X6_at : GoodIn wsX6_extents wsX6_at := goodIn_r _ [5] (by decide +kernel) (by decide +kernel)
set_option maxRecDepth 20000 in
theorem gX6_extents_X6_at : GoodIn wsX6_extents (va_wsS RX6 28 yX6_at wsX6_at) := goodIn_app (goodIn_of _ (by decide +kernel)) ggX6_extents_X6_at
set_option maxRecDepth 20000 in
theorem ggX6_extents_X6_blockOf : GoodIn wsX6_extents wsX6_blockOf := goodIn_r _ [9, 1, 13, 14, 15, 16, 17, 18, 19, 20, 21, 22] (by decide +kernel) (by decide +kernel)
set_option maxRecDepth 20000 in
theorem gX6_extents_X6_blockOf : GoodIn wsX6_extents (wsV RX6 40 RX6 yX6_blockOf wsX6_blockOf) := goodIn_app (goodIn_of _ (by decide +kernel)) ggX6_extents_X6_blockOf
set_option maxRecDepth 20000 in
theorem ggX6_extents_X6_flag : GoodIn wsX6_extents wsX6_flag := goodIn_r _ [12] (by decide +kernel) (by decide +kernel)
set_option maxRecDepth 20000 in
theorem gX6_extents_X6_flag : GoodIn wsX6_extents (va_wsS RX6 36 yX6_flag wsX6_flag) := goodIn_app (goodIn_of _ (by decide +kernel)) ggX6_extents_X6_flag
theorem dX6_extents_0 : decode cX6_extents 0 = .ok (.iconst 0, 1) := by decide +kernel
theorem dX6_extents_1 : decode cX6_extents 1 = .ok (.istore_n 3, 1) := by decide +kernel
theorem dX6_extents_2 : decode cX6_extents 2 = .ok (.bipush (-5), 2) := by decide +kernel
theorem dX6_extents_4 : decode cX6_extents 4 = .ok (.istore 4, 2) := by decide +kernel
theorem dX6_extents_6 : decode cX6_extents 6 = .ok (.iconst 0, 1) := by decide +kernel
theorem dX6_extents_7 : decode cX6_extents 7 = .ok (.istore 5, 2) := by decide +kernel
theorem dX6_extents_9 : decode cX6_extents 9 = .ok (.iload 5, 2) := by decide +kernel
theorem dX6_extents_11 : decode cX6_extents 11 = .ok (.aload_n 0, 1) := by decide +kernel
theorem dX6_extents_12 : decode cX6_extents 12 = .ok (.getfield 7, 3) := by decide +kernel
theorem dX6_extents_15 : decode cX6_extents 15 = .ok (.iload_n 1, 1) := by decide +kernel
theorem dX6_extents_16 : decode cX6_extents 16 = .ok (.iload_n 2, 1) := by decide +kernel
theorem dX6_extents_17 : decode cX6_extents 17 = .ok (.invokestatic 28, 3) := by decide +kernel
theorem dX6_extents_20 : decode cX6_extents 20 = .ok (.iconst 1, 1) := by decide +kernel
theorem dX6_extents_21 : decode cX6_extents 21 = .ok (.iadd, 1) := by decide +kernel
theorem dX6_extents_22 : decode cX6_extents 22 = .ok (.iaload, 1) := by decide +kernel
theorem dX6_extents_23 : decode cX6_extents 23 = .ok (.if_icmp .ge 48, 3) := by decide +kernel
theorem dX6_extents_26 : decode cX6_extents 26 = .ok (.aload_n 0, 1) := by decide +kernel
theorem dX6_extents_27 : decode cX6_extents 27 = .ok (.iload_n 1, 1) := by decide +kernel
theorem dX6_extents_28 : decode cX6_extents 28 = .ok (.iload_n 2, 1) := by decide +kernel
theorem dX6_extents_29 : decode cX6_extents 29 = .ok (.iload 5, 2) := by decide +kernel
theorem dX6_extents_31 : decode cX6_extents 31 = .ok (.invokevirtual 40, 3) := by decide +kernel
theorem dX6_extents_34 : decode cX6_extents 34 = .ok (.istore 6, 2) := by decide +kernel
theorem dX6_extents_36 : decode cX6_extents 36 = .ok (.iload_n 3, 1) := by decide +kernel
theorem dX6_extents_37 : decode cX6_extents 37 = .ok (.iload 5, 2) := by decide +kernel
theorem dX6_extents_39 : decode cX6_extents 39 = .ok (.ifCond .eq 12, 3) := by decide +kernel
theorem dX6_extents_42 : decode cX6_extents 42 = .ok (.iload 6, 2) := by decide +kernel
theorem dX6_extents_44 : decode cX6_extents 44 = .ok (.iload 4, 2) := by decide +kernel
theorem dX6_extents_46 : decode cX6_extents 46 = .ok (.iconst 1, 1) := by decide +kernel
theorem dX6_extents_47 : decode cX6_extents 47 = .ok (.iadd, 1) := by decide +kernel
theorem dX6_extents_48 : decode cX6_extents 48 = .ok (.if_icmp .eq 7, 3) := by decide +kernel
theorem dX6_extents_51 : decode cX6_extents 51 = .ok (.iconst 1, 1) := by decide +kernel
theorem dX6_extents_52 : decode cX6_extents 52 = .ok (.goto 4, 3) := by decide +kernel
theorem dX6_extents_55 : decode cX6_extents 55 = .ok (.iconst 0, 1) := by decide +kernel
theorem dX6_extents_56 : decode cX6_extents 56 = .ok (.invokestatic 36, 3) := by decide +kernel
theorem dX6_extents_59 : decode cX6_extents 59 = .ok (.iadd, 1) := by decide +kernel
theorem dX6_extents_60 : decode cX6_extents 60 = .ok (.istore_n 3, 1) := by decide +kernel
theorem dX6_extents_61 : decode cX6_extents 61 = .ok (.iload 6, 2) := by decide +kernel
theorem dX6_extents_63 : decode cX6_extents 63 = .ok (.istore 4, 2) := by decide +kernel
theorem dX6_extents_65 : decode cX6_extents 65 = .ok (.iinc 5 1, 3) := by decide +kernel
theorem dX6_extents_68 : decode cX6_extents 68 = .ok (.goto (-59), 3) := by decide +kernel
theorem dX6_extents_71 : decode cX6_extents 71 = .ok (.iload_n 3, 1) := by decide +kernel
theorem dX6_extents_72 : decode cX6_extents 72 = .ok (.ireturn, 1) := by decide +kernel
set_option maxRecDepth 20000 in
theorem ggX6_frees_X6_at : GoodIn wsX6_frees wsX6_at := goodIn_r _ [5] (by decide +kernel) (by decide +kernel)
set_option maxRecDepth 20000 in
theorem gX6_frees_X6_at : GoodIn wsX6_frees (va_wsS RX6 28 yX6_at wsX6_at) := goodIn_app (goodIn_of _ (by decide +kernel)) ggX6_frees_X6_at
theorem dX6_frees_0 : decode cX6_frees 0 = .ok (.iconst 0, 1) := by decide +kernel
theorem dX6_frees_1 : decode cX6_frees 1 = .ok (.istore 4, 2) := by decide +kernel
theorem dX6_frees_3 : decode cX6_frees 3 = .ok (.iconst 0, 1) := by decide +kernel
theorem dX6_frees_4 : decode cX6_frees 4 = .ok (.istore 5, 2) := by decide +kernel
theorem dX6_frees_6 : decode cX6_frees 6 = .ok (.iload 5, 2) := by decide +kernel
theorem dX6_frees_8 : decode cX6_frees 8 = .ok (.bipush 64, 2) := by decide +kernel
theorem dX6_frees_10 : decode cX6_frees 10 = .ok (.if_icmp .ge 59, 3) := by decide +kernel
theorem dX6_frees_13 : decode cX6_frees 13 = .ok (.aload_n 0, 1) := by decide +kernel
theorem dX6_frees_14 : decode cX6_frees 14 = .ok (.getfield 7, 3) := by decide +kernel
theorem dX6_frees_17 : decode cX6_frees 17 = .ok (.iload_n 1, 1) := by decide +kernel
theorem dX6_frees_18 : decode cX6_frees 18 = .ok (.bipush 64, 2) := by decide +kernel
theorem dX6_frees_20 : decode cX6_frees 20 = .ok (.iadd, 1) := by decide +kernel
theorem dX6_frees_21 : decode cX6_frees 21 = .ok (.iload 5, 2) := by decide +kernel
theorem dX6_frees_23 : decode cX6_frees 23 = .ok (.iadd, 1) := by decide +kernel
theorem dX6_frees_24 : decode cX6_frees 24 = .ok (.iaload, 1) := by decide +kernel
theorem dX6_frees_25 : decode cX6_frees 25 = .ok (.iload_n 2, 1) := by decide +kernel
theorem dX6_frees_26 : decode cX6_frees 26 = .ok (.if_icmp .ne 37, 3) := by decide +kernel
theorem dX6_frees_29 : decode cX6_frees 29 = .ok (.aload_n 0, 1) := by decide +kernel
theorem dX6_frees_30 : decode cX6_frees 30 = .ok (.getfield 7, 3) := by decide +kernel
theorem dX6_frees_33 : decode cX6_frees 33 = .ok (.iload_n 1, 1) := by decide +kernel
theorem dX6_frees_34 : decode cX6_frees 34 = .ok (.sipush 128, 3) := by decide +kernel
theorem dX6_frees_37 : decode cX6_frees 37 = .ok (.iadd, 1) := by decide +kernel
theorem dX6_frees_38 : decode cX6_frees 38 = .ok (.iload 5, 2) := by decide +kernel
theorem dX6_frees_40 : decode cX6_frees 40 = .ok (.iadd, 1) := by decide +kernel
theorem dX6_frees_41 : decode cX6_frees 41 = .ok (.iaload, 1) := by decide +kernel
theorem dX6_frees_42 : decode cX6_frees 42 = .ok (.iload_n 3, 1) := by decide +kernel
theorem dX6_frees_43 : decode cX6_frees 43 = .ok (.if_icmp .lt 20, 3) := by decide +kernel
theorem dX6_frees_46 : decode cX6_frees 46 = .ok (.aload_n 0, 1) := by decide +kernel
theorem dX6_frees_47 : decode cX6_frees 47 = .ok (.getfield 7, 3) := by decide +kernel
theorem dX6_frees_50 : decode cX6_frees 50 = .ok (.iload_n 1, 1) := by decide +kernel
theorem dX6_frees_51 : decode cX6_frees 51 = .ok (.bipush 64, 2) := by decide +kernel
theorem dX6_frees_53 : decode cX6_frees 53 = .ok (.iadd, 1) := by decide +kernel
theorem dX6_frees_54 : decode cX6_frees 54 = .ok (.iload 5, 2) := by decide +kernel
theorem dX6_frees_56 : decode cX6_frees 56 = .ok (.iadd, 1) := by decide +kernel
theorem dX6_frees_57 : decode cX6_frees 57 = .ok (.bipush (-5), 2) := by decide +kernel
theorem dX6_frees_59 : decode cX6_frees 59 = .ok (.iastore, 1) := by decide +kernel
theorem dX6_frees_60 : decode cX6_frees 60 = .ok (.iinc 4 1, 3) := by decide +kernel
theorem dX6_frees_63 : decode cX6_frees 63 = .ok (.iinc 5 1, 3) := by decide +kernel
theorem dX6_frees_66 : decode cX6_frees 66 = .ok (.goto (-60), 3) := by decide +kernel
theorem dX6_frees_69 : decode cX6_frees 69 = .ok (.aload_n 0, 1) := by decide +kernel
theorem dX6_frees_70 : decode cX6_frees 70 = .ok (.getfield 7, 3) := by decide +kernel
theorem dX6_frees_73 : decode cX6_frees 73 = .ok (.iload_n 1, 1) := by decide +kernel
theorem dX6_frees_74 : decode cX6_frees 74 = .ok (.iload_n 2, 1) := by decide +kernel
theorem dX6_frees_75 : decode cX6_frees 75 = .ok (.invokestatic 28, 3) := by decide +kernel
theorem dX6_frees_78 : decode cX6_frees 78 = .ok (.iconst 1, 1) := by decide +kernel
theorem dX6_frees_79 : decode cX6_frees 79 = .ok (.iadd, 1) := by decide +kernel
theorem dX6_frees_80 : decode cX6_frees 80 = .ok (.dup2, 1) := by decide +kernel
theorem dX6_frees_81 : decode cX6_frees 81 = .ok (.iaload, 1) := by decide +kernel
theorem dX6_frees_82 : decode cX6_frees 82 = .ok (.iload 4, 2) := by decide +kernel
theorem dX6_frees_84 : decode cX6_frees 84 = .ok (.isub, 1) := by decide +kernel
theorem dX6_frees_85 : decode cX6_frees 85 = .ok (.iastore, 1) := by decide +kernel
theorem dX6_frees_86 : decode cX6_frees 86 = .ok (.iload 4, 2) := by decide +kernel
theorem dX6_frees_88 : decode cX6_frees 88 = .ok (.ireturn, 1) := by decide +kernel
set_option maxRecDepth 20000 in
theorem ggX6_givesBack_X6_at : GoodIn wsX6_givesBack wsX6_at := goodIn_r _ [5] (by decide +kernel) (by decide +kernel)
set_option maxRecDepth 20000 in
theorem gX6_givesBack_X6_at : GoodIn wsX6_givesBack (va_wsS RX6 28 yX6_at wsX6_at) := goodIn_app (goodIn_of _ (by decide +kernel)) ggX6_givesBack_X6_at
set_option maxRecDepth 20000 in
theorem ggX6_givesBack_X6_frees : GoodIn wsX6_givesBack wsX6_frees := goodIn_r _ [9, 1, 2, 3, 4, 5, 10, 11, 12, 13, 14, 15, 16, 17, 18, 19] (by decide +kernel) (by decide +kernel)
set_option maxRecDepth 20000 in
theorem gX6_givesBack_X6_frees : GoodIn wsX6_givesBack (wsV RX6 44 RX6 yX6_frees wsX6_frees) := goodIn_app (goodIn_of _ (by decide +kernel)) ggX6_givesBack_X6_frees
theorem dX6_givesBack_0 : decode cX6_givesBack 0 = .ok (.aload_n 0, 1) := by decide +kernel
theorem dX6_givesBack_1 : decode cX6_givesBack 1 = .ok (.iload_n 1, 1) := by decide +kernel
theorem dX6_givesBack_2 : decode cX6_givesBack 2 = .ok (.iload_n 2, 1) := by decide +kernel
theorem dX6_givesBack_3 : decode cX6_givesBack 3 = .ok (.aload_n 0, 1) := by decide +kernel
theorem dX6_givesBack_4 : decode cX6_givesBack 4 = .ok (.getfield 7, 3) := by decide +kernel
theorem dX6_givesBack_7 : decode cX6_givesBack 7 = .ok (.iload_n 1, 1) := by decide +kernel
theorem dX6_givesBack_8 : decode cX6_givesBack 8 = .ok (.iload_n 2, 1) := by decide +kernel
theorem dX6_givesBack_9 : decode cX6_givesBack 9 = .ok (.invokestatic 28, 3) := by decide +kernel
theorem dX6_givesBack_12 : decode cX6_givesBack 12 = .ok (.iconst 2, 1) := by decide +kernel
theorem dX6_givesBack_13 : decode cX6_givesBack 13 = .ok (.iadd, 1) := by decide +kernel
theorem dX6_givesBack_14 : decode cX6_givesBack 14 = .ok (.iaload, 1) := by decide +kernel
theorem dX6_givesBack_15 : decode cX6_givesBack 15 = .ok (.invokevirtual 44, 3) := by decide +kernel
theorem dX6_givesBack_18 : decode cX6_givesBack 18 = .ok (.istore_n 3, 1) := by decide +kernel
theorem dX6_givesBack_19 : decode cX6_givesBack 19 = .ok (.aload_n 0, 1) := by decide +kernel
theorem dX6_givesBack_20 : decode cX6_givesBack 20 = .ok (.getfield 7, 3) := by decide +kernel
theorem dX6_givesBack_23 : decode cX6_givesBack 23 = .ok (.iload_n 1, 1) := by decide +kernel
theorem dX6_givesBack_24 : decode cX6_givesBack 24 = .ok (.iload_n 2, 1) := by decide +kernel
theorem dX6_givesBack_25 : decode cX6_givesBack 25 = .ok (.invokestatic 28, 3) := by decide +kernel
theorem dX6_givesBack_28 : decode cX6_givesBack 28 = .ok (.iconst 5, 1) := by decide +kernel
theorem dX6_givesBack_29 : decode cX6_givesBack 29 = .ok (.iadd, 1) := by decide +kernel
theorem dX6_givesBack_30 : decode cX6_givesBack 30 = .ok (.iconst 1, 1) := by decide +kernel
theorem dX6_givesBack_31 : decode cX6_givesBack 31 = .ok (.iastore, 1) := by decide +kernel
theorem dX6_givesBack_32 : decode cX6_givesBack 32 = .ok (.aload_n 0, 1) := by decide +kernel
theorem dX6_givesBack_33 : decode cX6_givesBack 33 = .ok (.getfield 7, 3) := by decide +kernel
theorem dX6_givesBack_36 : decode cX6_givesBack 36 = .ok (.iload_n 1, 1) := by decide +kernel
theorem dX6_givesBack_37 : decode cX6_givesBack 37 = .ok (.sipush 243, 3) := by decide +kernel
theorem dX6_givesBack_40 : decode cX6_givesBack 40 = .ok (.iadd, 1) := by decide +kernel
theorem dX6_givesBack_41 : decode cX6_givesBack 41 = .ok (.dup2, 1) := by decide +kernel
theorem dX6_givesBack_42 : decode cX6_givesBack 42 = .ok (.iaload, 1) := by decide +kernel
theorem dX6_givesBack_43 : decode cX6_givesBack 43 = .ok (.iload_n 3, 1) := by decide +kernel
theorem dX6_givesBack_44 : decode cX6_givesBack 44 = .ok (.iadd, 1) := by decide +kernel
theorem dX6_givesBack_45 : decode cX6_givesBack 45 = .ok (.iastore, 1) := by decide +kernel
theorem dX6_givesBack_46 : decode cX6_givesBack 46 = .ok (.iload_n 3, 1) := by decide +kernel
theorem dX6_givesBack_47 : decode cX6_givesBack 47 = .ok (.ireturn, 1) := by decide +kernel
set_option maxRecDepth 20000 in
theorem ggX6_sumOfLent_X6_lent : GoodIn wsX6_sumOfLent wsX6_lent := goodIn_r _ [5, 6, 7, 8, 4, 9, 10, 11, 12, 13, 14, 15, 16, 17, 18, 19] (by decide +kernel) (by decide +kernel)
set_option maxRecDepth 20000 in
theorem gX6_sumOfLent_X6_lent : GoodIn wsX6_sumOfLent (wsV RX6 47 RX6 yX6_lent wsX6_lent) := goodIn_app (goodIn_of _ (by decide +kernel)) ggX6_sumOfLent_X6_lent
theorem dX6_sumOfLent_0 : decode cX6_sumOfLent 0 = .ok (.iconst 0, 1) := by decide +kernel
theorem dX6_sumOfLent_1 : decode cX6_sumOfLent 1 = .ok (.istore_n 2, 1) := by decide +kernel
theorem dX6_sumOfLent_2 : decode cX6_sumOfLent 2 = .ok (.iconst 0, 1) := by decide +kernel
theorem dX6_sumOfLent_3 : decode cX6_sumOfLent 3 = .ok (.istore_n 3, 1) := by decide +kernel
theorem dX6_sumOfLent_4 : decode cX6_sumOfLent 4 = .ok (.iload_n 3, 1) := by decide +kernel
theorem dX6_sumOfLent_5 : decode cX6_sumOfLent 5 = .ok (.bipush 8, 2) := by decide +kernel
theorem dX6_sumOfLent_7 : decode cX6_sumOfLent 7 = .ok (.if_icmp .ge 18, 3) := by decide +kernel
theorem dX6_sumOfLent_10 : decode cX6_sumOfLent 10 = .ok (.iload_n 2, 1) := by decide +kernel
theorem dX6_sumOfLent_11 : decode cX6_sumOfLent 11 = .ok (.aload_n 0, 1) := by decide +kernel
theorem dX6_sumOfLent_12 : decode cX6_sumOfLent 12 = .ok (.iload_n 1, 1) := by decide +kernel
theorem dX6_sumOfLent_13 : decode cX6_sumOfLent 13 = .ok (.iload_n 3, 1) := by decide +kernel
theorem dX6_sumOfLent_14 : decode cX6_sumOfLent 14 = .ok (.invokevirtual 47, 3) := by decide +kernel
theorem dX6_sumOfLent_17 : decode cX6_sumOfLent 17 = .ok (.iadd, 1) := by decide +kernel
theorem dX6_sumOfLent_18 : decode cX6_sumOfLent 18 = .ok (.istore_n 2, 1) := by decide +kernel
theorem dX6_sumOfLent_19 : decode cX6_sumOfLent 19 = .ok (.iinc 3 1, 3) := by decide +kernel
theorem dX6_sumOfLent_22 : decode cX6_sumOfLent 22 = .ok (.goto (-18), 3) := by decide +kernel
theorem dX6_sumOfLent_25 : decode cX6_sumOfLent 25 = .ok (.iload_n 2, 1) := by decide +kernel
theorem dX6_sumOfLent_26 : decode cX6_sumOfLent 26 = .ok (.ireturn, 1) := by decide +kernel
set_option maxRecDepth 20000 in
theorem ggX6_giver_X6_lent : GoodIn wsX6_giver wsX6_lent := goodIn_r _ [5, 6, 7, 8, 4, 9, 10, 11, 12, 13, 14, 15, 16, 17, 18, 19] (by decide +kernel) (by decide +kernel)
set_option maxRecDepth 20000 in
theorem gX6_giver_X6_lent : GoodIn wsX6_giver (wsV RX6 47 RX6 yX6_lent wsX6_lent) := goodIn_app (goodIn_of _ (by decide +kernel)) ggX6_giver_X6_lent
theorem dX6_giver_0 : decode cX6_giver 0 = .ok (.bipush (-5), 2) := by decide +kernel
theorem dX6_giver_2 : decode cX6_giver 2 = .ok (.istore_n 3, 1) := by decide +kernel
theorem dX6_giver_3 : decode cX6_giver 3 = .ok (.iconst 0, 1) := by decide +kernel
theorem dX6_giver_4 : decode cX6_giver 4 = .ok (.istore 4, 2) := by decide +kernel
theorem dX6_giver_6 : decode cX6_giver 6 = .ok (.iconst 0, 1) := by decide +kernel
theorem dX6_giver_7 : decode cX6_giver 7 = .ok (.istore 5, 2) := by decide +kernel
theorem dX6_giver_9 : decode cX6_giver 9 = .ok (.iload 5, 2) := by decide +kernel
theorem dX6_giver_11 : decode cX6_giver 11 = .ok (.bipush 8, 2) := by decide +kernel
theorem dX6_giver_13 : decode cX6_giver 13 = .ok (.if_icmp .ge 65, 3) := by decide +kernel
theorem dX6_giver_16 : decode cX6_giver 16 = .ok (.iload 5, 2) := by decide +kernel
theorem dX6_giver_18 : decode cX6_giver 18 = .ok (.iload_n 2, 1) := by decide +kernel
theorem dX6_giver_19 : decode cX6_giver 19 = .ok (.if_icmp .eq 19, 3) := by decide +kernel
theorem dX6_giver_22 : decode cX6_giver 22 = .ok (.aload_n 0, 1) := by decide +kernel
theorem dX6_giver_23 : decode cX6_giver 23 = .ok (.iload_n 1, 1) := by decide +kernel
theorem dX6_giver_24 : decode cX6_giver 24 = .ok (.iload 5, 2) := by decide +kernel
theorem dX6_giver_26 : decode cX6_giver 26 = .ok (.invokevirtual 47, 3) := by decide +kernel
theorem dX6_giver_29 : decode cX6_giver 29 = .ok (.iload 4, 2) := by decide +kernel
theorem dX6_giver_31 : decode cX6_giver 31 = .ok (.if_icmp .le 7, 3) := by decide +kernel
theorem dX6_giver_34 : decode cX6_giver 34 = .ok (.iconst 1, 1) := by decide +kernel
theorem dX6_giver_35 : decode cX6_giver 35 = .ok (.goto 4, 3) := by decide +kernel
theorem dX6_giver_38 : decode cX6_giver 38 = .ok (.iconst 0, 1) := by decide +kernel
theorem dX6_giver_39 : decode cX6_giver 39 = .ok (.istore 6, 2) := by decide +kernel
theorem dX6_giver_41 : decode cX6_giver 41 = .ok (.iload 6, 2) := by decide +kernel
theorem dX6_giver_43 : decode cX6_giver 43 = .ok (.ifCond .eq 8, 3) := by decide +kernel
theorem dX6_giver_46 : decode cX6_giver 46 = .ok (.iload 5, 2) := by decide +kernel
theorem dX6_giver_48 : decode cX6_giver 48 = .ok (.goto 4, 3) := by decide +kernel
theorem dX6_giver_51 : decode cX6_giver 51 = .ok (.iload_n 3, 1) := by decide +kernel
theorem dX6_giver_52 : decode cX6_giver 52 = .ok (.istore_n 3, 1) := by decide +kernel
theorem dX6_giver_53 : decode cX6_giver 53 = .ok (.iload 6, 2) := by decide +kernel
theorem dX6_giver_55 : decode cX6_giver 55 = .ok (.ifCond .eq 13, 3) := by decide +kernel
theorem dX6_giver_58 : decode cX6_giver 58 = .ok (.aload_n 0, 1) := by decide +kernel
theorem dX6_giver_59 : decode cX6_giver 59 = .ok (.iload_n 1, 1) := by decide +kernel
theorem dX6_giver_60 : decode cX6_giver 60 = .ok (.iload 5, 2) := by decide +kernel
theorem dX6_giver_62 : decode cX6_giver 62 = .ok (.invokevirtual 47, 3) := by decide +kernel
theorem dX6_giver_65 : decode cX6_giver 65 = .ok (.goto 5, 3) := by decide +kernel
theorem dX6_giver_68 : decode cX6_giver 68 = .ok (.iload 4, 2) := by decide +kernel
theorem dX6_giver_70 : decode cX6_giver 70 = .ok (.istore 4, 2) := by decide +kernel
theorem dX6_giver_72 : decode cX6_giver 72 = .ok (.iinc 5 1, 3) := by decide +kernel
theorem dX6_giver_75 : decode cX6_giver 75 = .ok (.goto (-66), 3) := by decide +kernel
theorem dX6_giver_78 : decode cX6_giver 78 = .ok (.iload_n 3, 1) := by decide +kernel
theorem dX6_giver_79 : decode cX6_giver 79 = .ok (.ireturn, 1) := by decide +kernel
set_option maxRecDepth 20000 in
theorem ggX6_runLength_X6_isFree : GoodIn wsX6_runLength wsX6_isFree := goodIn_r _ [5, 6, 7, 8, 9, 10, 11, 12, 13, 14, 15, 16] (by decide +kernel) (by decide +kernel)
set_option maxRecDepth 20000 in
theorem gX6_runLength_X6_isFree : GoodIn wsX6_runLength (wsV RX6 32 RX6 yX6_isFree wsX6_isFree) := goodIn_app (goodIn_of _ (by decide +kernel)) ggX6_runLength_X6_isFree
theorem dX6_runLength_0 : decode cX6_runLength 0 = .ok (.iconst 0, 1) := by decide +kernel
theorem dX6_runLength_1 : decode cX6_runLength 1 = .ok (.istore_n 3, 1) := by decide +kernel
theorem dX6_runLength_2 : decode cX6_runLength 2 = .ok (.aload_n 0, 1) := by decide +kernel
theorem dX6_runLength_3 : decode cX6_runLength 3 = .ok (.iload_n 1, 1) := by decide +kernel
theorem dX6_runLength_4 : decode cX6_runLength 4 = .ok (.iload_n 2, 1) := by decide +kernel
theorem dX6_runLength_5 : decode cX6_runLength 5 = .ok (.iload_n 3, 1) := by decide +kernel
theorem dX6_runLength_6 : decode cX6_runLength 6 = .ok (.iadd, 1) := by decide +kernel
theorem dX6_runLength_7 : decode cX6_runLength 7 = .ok (.invokevirtual 32, 3) := by decide +kernel
theorem dX6_runLength_10 : decode cX6_runLength 10 = .ok (.ifCond .eq 9, 3) := by decide +kernel
theorem dX6_runLength_13 : decode cX6_runLength 13 = .ok (.iinc 3 1, 3) := by decide +kernel
theorem dX6_runLength_16 : decode cX6_runLength 16 = .ok (.goto (-14), 3) := by decide +kernel
theorem dX6_runLength_19 : decode cX6_runLength 19 = .ok (.iload_n 3, 1) := by decide +kernel
theorem dX6_runLength_20 : decode cX6_runLength 20 = .ok (.ireturn, 1) := by decide +kernel
set_option maxRecDepth 20000 in
theorem ggX6_isRunStart_X6_isFree : GoodIn wsX6_isRunStart wsX6_isFree := goodIn_r _ [5, 6, 7, 8, 9, 10, 11, 12, 13, 14, 15, 16] (by decide +kernel) (by decide +kernel)
set_option maxRecDepth 20000 in
theorem gX6_isRunStart_X6_isFree : GoodIn wsX6_isRunStart (wsV RX6 32 RX6 yX6_isFree wsX6_isFree) := goodIn_app (goodIn_of _ (by decide +kernel)) ggX6_isRunStart_X6_isFree
theorem dX6_isRunStart_0 : decode cX6_isRunStart 0 = .ok (.aload_n 0, 1) := by decide +kernel
theorem dX6_isRunStart_1 : decode cX6_isRunStart 1 = .ok (.iload_n 1, 1) := by decide +kernel
theorem dX6_isRunStart_2 : decode cX6_isRunStart 2 = .ok (.iload_n 2, 1) := by decide +kernel
theorem dX6_isRunStart_3 : decode cX6_isRunStart 3 = .ok (.invokevirtual 32, 3) := by decide +kernel
theorem dX6_isRunStart_6 : decode cX6_isRunStart 6 = .ok (.ifCond .eq 22, 3) := by decide +kernel
theorem dX6_isRunStart_9 : decode cX6_isRunStart 9 = .ok (.iload_n 2, 1) := by decide +kernel
theorem dX6_isRunStart_10 : decode cX6_isRunStart 10 = .ok (.ifCond .eq 14, 3) := by decide +kernel
theorem dX6_isRunStart_13 : decode cX6_isRunStart 13 = .ok (.aload_n 0, 1) := by decide +kernel
theorem dX6_isRunStart_14 : decode cX6_isRunStart 14 = .ok (.iload_n 1, 1) := by decide +kernel
theorem dX6_isRunStart_15 : decode cX6_isRunStart 15 = .ok (.iload_n 2, 1) := by decide +kernel
theorem dX6_isRunStart_16 : decode cX6_isRunStart 16 = .ok (.iconst 1, 1) := by decide +kernel
theorem dX6_isRunStart_17 : decode cX6_isRunStart 17 = .ok (.isub, 1) := by decide +kernel
theorem dX6_isRunStart_18 : decode cX6_isRunStart 18 = .ok (.invokevirtual 32, 3) := by decide +kernel
theorem dX6_isRunStart_21 : decode cX6_isRunStart 21 = .ok (.ifCond .ne 7, 3) := by decide +kernel
theorem dX6_isRunStart_24 : decode cX6_isRunStart 24 = .ok (.iconst 1, 1) := by decide +kernel
theorem dX6_isRunStart_25 : decode cX6_isRunStart 25 = .ok (.goto 4, 3) := by decide +kernel
theorem dX6_isRunStart_28 : decode cX6_isRunStart 28 = .ok (.iconst 0, 1) := by decide +kernel
theorem dX6_isRunStart_29 : decode cX6_isRunStart 29 = .ok (.ireturn, 1) := by decide +kernel
set_option maxRecDepth 20000 in
theorem ggX6_chooses_X6_isRunStart : GoodIn wsX6_chooses wsX6_isRunStart := goodIn_r _ [6, 7, 8, 9, 5, 10, 1, 15, 16, 17, 18, 19, 20, 21, 22, 23, 24] (by decide +kernel) (by decide +kernel)
set_option maxRecDepth 20000 in
theorem gX6_chooses_X6_isRunStart : GoodIn wsX6_chooses (wsV RX6 50 RX6 yX6_isRunStart wsX6_isRunStart) := goodIn_app (goodIn_of _ (by decide +kernel)) ggX6_chooses_X6_isRunStart
set_option maxRecDepth 20000 in
theorem ggX6_chooses_X6_runLength : GoodIn wsX6_chooses wsX6_runLength := goodIn_r _ [14, 7, 8, 9, 5, 10, 1, 15, 16, 17, 18, 19, 20, 21, 22, 23, 24] (by decide +kernel) (by decide +kernel)
set_option maxRecDepth 20000 in
theorem gX6_chooses_X6_runLength : GoodIn wsX6_chooses (wsV RX6 53 RX6 yX6_runLength wsX6_runLength) := goodIn_app (goodIn_of _ (by decide +kernel)) ggX6_chooses_X6_runLength
theorem dX6_chooses_0 : decode cX6_chooses 0 = .ok (.bipush (-5), 2) := by decide +kernel
theorem dX6_chooses_2 : decode cX6_chooses 2 = .ok (.istore_n 3, 1) := by decide +kernel
theorem dX6_chooses_3 : decode cX6_chooses 3 = .ok (.bipush (-5), 2) := by decide +kernel
theorem dX6_chooses_5 : decode cX6_chooses 5 = .ok (.istore 4, 2) := by decide +kernel
theorem dX6_chooses_7 : decode cX6_chooses 7 = .ok (.iconst 0, 1) := by decide +kernel
theorem dX6_chooses_8 : decode cX6_chooses 8 = .ok (.istore 5, 2) := by decide +kernel
theorem dX6_chooses_10 : decode cX6_chooses 10 = .ok (.iload 5, 2) := by decide +kernel
theorem dX6_chooses_12 : decode cX6_chooses 12 = .ok (.bipush 64, 2) := by decide +kernel
theorem dX6_chooses_14 : decode cX6_chooses 14 = .ok (.if_icmp .ge 113, 3) := by decide +kernel
theorem dX6_chooses_17 : decode cX6_chooses 17 = .ok (.aload_n 0, 1) := by decide +kernel
theorem dX6_chooses_18 : decode cX6_chooses 18 = .ok (.iload_n 1, 1) := by decide +kernel
theorem dX6_chooses_19 : decode cX6_chooses 19 = .ok (.iload 5, 2) := by decide +kernel
theorem dX6_chooses_21 : decode cX6_chooses 21 = .ok (.invokevirtual 50, 3) := by decide +kernel
theorem dX6_chooses_24 : decode cX6_chooses 24 = .ok (.ifCond .eq 97, 3) := by decide +kernel
theorem dX6_chooses_27 : decode cX6_chooses 27 = .ok (.aload_n 0, 1) := by decide +kernel
theorem dX6_chooses_28 : decode cX6_chooses 28 = .ok (.iload_n 1, 1) := by decide +kernel
theorem dX6_chooses_29 : decode cX6_chooses 29 = .ok (.iload 5, 2) := by decide +kernel
theorem dX6_chooses_31 : decode cX6_chooses 31 = .ok (.invokevirtual 53, 3) := by decide +kernel
theorem dX6_chooses_34 : decode cX6_chooses 34 = .ok (.istore 6, 2) := by decide +kernel
theorem dX6_chooses_36 : decode cX6_chooses 36 = .ok (.iload_n 3, 1) := by decide +kernel
theorem dX6_chooses_37 : decode cX6_chooses 37 = .ok (.bipush (-5), 2) := by decide +kernel
theorem dX6_chooses_39 : decode cX6_chooses 39 = .ok (.if_icmp .eq 29, 3) := by decide +kernel
theorem dX6_chooses_42 : decode cX6_chooses 42 = .ok (.aload_n 0, 1) := by decide +kernel
theorem dX6_chooses_43 : decode cX6_chooses 43 = .ok (.getfield 7, 3) := by decide +kernel
theorem dX6_chooses_46 : decode cX6_chooses 46 = .ok (.iload_n 1, 1) := by decide +kernel
theorem dX6_chooses_47 : decode cX6_chooses 47 = .ok (.sipush 240, 3) := by decide +kernel
theorem dX6_chooses_50 : decode cX6_chooses 50 = .ok (.iadd, 1) := by decide +kernel
theorem dX6_chooses_51 : decode cX6_chooses 51 = .ok (.iconst 1, 1) := by decide +kernel
theorem dX6_chooses_52 : decode cX6_chooses 52 = .ok (.iadd, 1) := by decide +kernel
theorem dX6_chooses_53 : decode cX6_chooses 53 = .ok (.iaload, 1) := by decide +kernel
theorem dX6_chooses_54 : decode cX6_chooses 54 = .ok (.ifCond .ne 18, 3) := by decide +kernel
theorem dX6_chooses_57 : decode cX6_chooses 57 = .ok (.iload 6, 2) := by decide +kernel
theorem dX6_chooses_59 : decode cX6_chooses 59 = .ok (.aload_n 0, 1) := by decide +kernel
theorem dX6_chooses_60 : decode cX6_chooses 60 = .ok (.iload_n 1, 1) := by decide +kernel
theorem dX6_chooses_61 : decode cX6_chooses 61 = .ok (.iload_n 3, 1) := by decide +kernel
theorem dX6_chooses_62 : decode cX6_chooses 62 = .ok (.invokevirtual 53, 3) := by decide +kernel
theorem dX6_chooses_65 : decode cX6_chooses 65 = .ok (.if_icmp .ge 7, 3) := by decide +kernel
theorem dX6_chooses_68 : decode cX6_chooses 68 = .ok (.iconst 1, 1) := by decide +kernel
theorem dX6_chooses_69 : decode cX6_chooses 69 = .ok (.goto 4, 3) := by decide +kernel
theorem dX6_chooses_72 : decode cX6_chooses 72 = .ok (.iconst 0, 1) := by decide +kernel
theorem dX6_chooses_73 : decode cX6_chooses 73 = .ok (.istore 7, 2) := by decide +kernel
theorem dX6_chooses_75 : decode cX6_chooses 75 = .ok (.iload 6, 2) := by decide +kernel
theorem dX6_chooses_77 : decode cX6_chooses 77 = .ok (.iload_n 2, 1) := by decide +kernel
theorem dX6_chooses_78 : decode cX6_chooses 78 = .ok (.if_icmp .lt 13, 3) := by decide +kernel
theorem dX6_chooses_81 : decode cX6_chooses 81 = .ok (.iload 7, 2) := by decide +kernel
theorem dX6_chooses_83 : decode cX6_chooses 83 = .ok (.ifCond .eq 8, 3) := by decide +kernel
theorem dX6_chooses_86 : decode cX6_chooses 86 = .ok (.iload 5, 2) := by decide +kernel
theorem dX6_chooses_88 : decode cX6_chooses 88 = .ok (.goto 4, 3) := by decide +kernel
theorem dX6_chooses_91 : decode cX6_chooses 91 = .ok (.iload_n 3, 1) := by decide +kernel
theorem dX6_chooses_92 : decode cX6_chooses 92 = .ok (.istore_n 3, 1) := by decide +kernel
theorem dX6_chooses_93 : decode cX6_chooses 93 = .ok (.iload 4, 2) := by decide +kernel
theorem dX6_chooses_95 : decode cX6_chooses 95 = .ok (.bipush (-5), 2) := by decide +kernel
theorem dX6_chooses_97 : decode cX6_chooses 97 = .ok (.if_icmp .eq 15, 3) := by decide +kernel
theorem dX6_chooses_100 : decode cX6_chooses 100 = .ok (.iload 6, 2) := by decide +kernel
theorem dX6_chooses_102 : decode cX6_chooses 102 = .ok (.aload_n 0, 1) := by decide +kernel
theorem dX6_chooses_103 : decode cX6_chooses 103 = .ok (.iload_n 1, 1) := by decide +kernel
theorem dX6_chooses_104 : decode cX6_chooses 104 = .ok (.iload 4, 2) := by decide +kernel
theorem dX6_chooses_106 : decode cX6_chooses 106 = .ok (.invokevirtual 53, 3) := by decide +kernel
theorem dX6_chooses_109 : decode cX6_chooses 109 = .ok (.if_icmp .le 8, 3) := by decide +kernel
theorem dX6_chooses_112 : decode cX6_chooses 112 = .ok (.iload 5, 2) := by decide +kernel
theorem dX6_chooses_114 : decode cX6_chooses 114 = .ok (.goto 5, 3) := by decide +kernel
theorem dX6_chooses_117 : decode cX6_chooses 117 = .ok (.iload 4, 2) := by decide +kernel
theorem dX6_chooses_119 : decode cX6_chooses 119 = .ok (.istore 4, 2) := by decide +kernel
theorem dX6_chooses_121 : decode cX6_chooses 121 = .ok (.iinc 5 1, 3) := by decide +kernel
theorem dX6_chooses_124 : decode cX6_chooses 124 = .ok (.goto (-114), 3) := by decide +kernel
theorem dX6_chooses_127 : decode cX6_chooses 127 = .ok (.iload_n 3, 1) := by decide +kernel
theorem dX6_chooses_128 : decode cX6_chooses 128 = .ok (.bipush (-5), 2) := by decide +kernel
theorem dX6_chooses_130 : decode cX6_chooses 130 = .ok (.if_icmp .ne 8, 3) := by decide +kernel
theorem dX6_chooses_133 : decode cX6_chooses 133 = .ok (.iload 4, 2) := by decide +kernel
theorem dX6_chooses_135 : decode cX6_chooses 135 = .ok (.goto 4, 3) := by decide +kernel
theorem dX6_chooses_138 : decode cX6_chooses 138 = .ok (.iload_n 3, 1) := by decide +kernel
theorem dX6_chooses_139 : decode cX6_chooses 139 = .ok (.ireturn, 1) := by decide +kernel
set_option maxRecDepth 20000 in
theorem ggX6_adds_X6_isFree : GoodIn wsX6_adds wsX6_isFree := goodIn_r _ [6, 1, 10, 11, 12, 13, 14, 15, 16, 17, 18, 19] (by decide +kernel) (by decide +kernel)
set_option maxRecDepth 20000 in
theorem gX6_adds_X6_isFree : GoodIn wsX6_adds (wsV RX6 32 RX6 yX6_isFree wsX6_isFree) := goodIn_app (goodIn_of _ (by decide +kernel)) ggX6_adds_X6_isFree
set_option maxRecDepth 20000 in
theorem ggX6_adds_X6_at : GoodIn wsX6_adds wsX6_at := goodIn_r _ [9] (by decide +kernel) (by decide +kernel)
set_option maxRecDepth 20000 in
theorem gX6_adds_X6_at : GoodIn wsX6_adds (va_wsS RX6 28 yX6_at wsX6_at) := goodIn_app (goodIn_of _ (by decide +kernel)) ggX6_adds_X6_at
theorem dX6_adds_0 : decode cX6_adds 0 = .ok (.iconst 0, 1) := by decide +kernel
theorem dX6_adds_1 : decode cX6_adds 1 = .ok (.istore 5, 2) := by decide +kernel
theorem dX6_adds_3 : decode cX6_adds 3 = .ok (.iload 5, 2) := by decide +kernel
theorem dX6_adds_5 : decode cX6_adds 5 = .ok (.iload 4, 2) := by decide +kernel
theorem dX6_adds_7 : decode cX6_adds 7 = .ok (.if_icmp .ge 79, 3) := by decide +kernel
theorem dX6_adds_10 : decode cX6_adds 10 = .ok (.aload_n 0, 1) := by decide +kernel
theorem dX6_adds_11 : decode cX6_adds 11 = .ok (.iload_n 1, 1) := by decide +kernel
theorem dX6_adds_12 : decode cX6_adds 12 = .ok (.iload_n 3, 1) := by decide +kernel
theorem dX6_adds_13 : decode cX6_adds 13 = .ok (.iload 5, 2) := by decide +kernel
theorem dX6_adds_15 : decode cX6_adds 15 = .ok (.iadd, 1) := by decide +kernel
theorem dX6_adds_16 : decode cX6_adds 16 = .ok (.invokevirtual 32, 3) := by decide +kernel
theorem dX6_adds_19 : decode cX6_adds 19 = .ok (.ifCond .eq 67, 3) := by decide +kernel
theorem dX6_adds_22 : decode cX6_adds 22 = .ok (.aload_n 0, 1) := by decide +kernel
theorem dX6_adds_23 : decode cX6_adds 23 = .ok (.getfield 7, 3) := by decide +kernel
theorem dX6_adds_26 : decode cX6_adds 26 = .ok (.iload_n 1, 1) := by decide +kernel
theorem dX6_adds_27 : decode cX6_adds 27 = .ok (.bipush 64, 2) := by decide +kernel
theorem dX6_adds_29 : decode cX6_adds 29 = .ok (.iadd, 1) := by decide +kernel
theorem dX6_adds_30 : decode cX6_adds 30 = .ok (.iload_n 3, 1) := by decide +kernel
theorem dX6_adds_31 : decode cX6_adds 31 = .ok (.iadd, 1) := by decide +kernel
theorem dX6_adds_32 : decode cX6_adds 32 = .ok (.iload 5, 2) := by decide +kernel
theorem dX6_adds_34 : decode cX6_adds 34 = .ok (.iadd, 1) := by decide +kernel
theorem dX6_adds_35 : decode cX6_adds 35 = .ok (.iload_n 2, 1) := by decide +kernel
theorem dX6_adds_36 : decode cX6_adds 36 = .ok (.iastore, 1) := by decide +kernel
theorem dX6_adds_37 : decode cX6_adds 37 = .ok (.aload_n 0, 1) := by decide +kernel
theorem dX6_adds_38 : decode cX6_adds 38 = .ok (.getfield 7, 3) := by decide +kernel
theorem dX6_adds_41 : decode cX6_adds 41 = .ok (.iload_n 1, 1) := by decide +kernel
theorem dX6_adds_42 : decode cX6_adds 42 = .ok (.sipush 128, 3) := by decide +kernel
theorem dX6_adds_45 : decode cX6_adds 45 = .ok (.iadd, 1) := by decide +kernel
theorem dX6_adds_46 : decode cX6_adds 46 = .ok (.iload_n 3, 1) := by decide +kernel
theorem dX6_adds_47 : decode cX6_adds 47 = .ok (.iadd, 1) := by decide +kernel
theorem dX6_adds_48 : decode cX6_adds 48 = .ok (.iload 5, 2) := by decide +kernel
theorem dX6_adds_50 : decode cX6_adds 50 = .ok (.iadd, 1) := by decide +kernel
theorem dX6_adds_51 : decode cX6_adds 51 = .ok (.aload_n 0, 1) := by decide +kernel
theorem dX6_adds_52 : decode cX6_adds 52 = .ok (.getfield 7, 3) := by decide +kernel
theorem dX6_adds_55 : decode cX6_adds 55 = .ok (.iload_n 1, 1) := by decide +kernel
theorem dX6_adds_56 : decode cX6_adds 56 = .ok (.iload_n 2, 1) := by decide +kernel
theorem dX6_adds_57 : decode cX6_adds 57 = .ok (.invokestatic 28, 3) := by decide +kernel
theorem dX6_adds_60 : decode cX6_adds 60 = .ok (.iconst 1, 1) := by decide +kernel
theorem dX6_adds_61 : decode cX6_adds 61 = .ok (.iadd, 1) := by decide +kernel
theorem dX6_adds_62 : decode cX6_adds 62 = .ok (.iaload, 1) := by decide +kernel
theorem dX6_adds_63 : decode cX6_adds 63 = .ok (.iastore, 1) := by decide +kernel
theorem dX6_adds_64 : decode cX6_adds 64 = .ok (.aload_n 0, 1) := by decide +kernel
theorem dX6_adds_65 : decode cX6_adds 65 = .ok (.getfield 7, 3) := by decide +kernel
theorem dX6_adds_68 : decode cX6_adds 68 = .ok (.iload_n 1, 1) := by decide +kernel
theorem dX6_adds_69 : decode cX6_adds 69 = .ok (.iload_n 2, 1) := by decide +kernel
theorem dX6_adds_70 : decode cX6_adds 70 = .ok (.invokestatic 28, 3) := by decide +kernel
theorem dX6_adds_73 : decode cX6_adds 73 = .ok (.iconst 1, 1) := by decide +kernel
theorem dX6_adds_74 : decode cX6_adds 74 = .ok (.iadd, 1) := by decide +kernel
theorem dX6_adds_75 : decode cX6_adds 75 = .ok (.dup2, 1) := by decide +kernel
theorem dX6_adds_76 : decode cX6_adds 76 = .ok (.iaload, 1) := by decide +kernel
theorem dX6_adds_77 : decode cX6_adds 77 = .ok (.iconst 1, 1) := by decide +kernel
theorem dX6_adds_78 : decode cX6_adds 78 = .ok (.iadd, 1) := by decide +kernel
theorem dX6_adds_79 : decode cX6_adds 79 = .ok (.iastore, 1) := by decide +kernel
theorem dX6_adds_80 : decode cX6_adds 80 = .ok (.iinc 5 1, 3) := by decide +kernel
theorem dX6_adds_83 : decode cX6_adds 83 = .ok (.goto (-80), 3) := by decide +kernel
theorem dX6_adds_86 : decode cX6_adds 86 = .ok (.iload 5, 2) := by decide +kernel
theorem dX6_adds_88 : decode cX6_adds 88 = .ok (.ireturn, 1) := by decide +kernel
set_option maxRecDepth 20000 in
theorem ggX6_grows_X6_at : GoodIn wsX6_grows wsX6_at := goodIn_r _ [5] (by decide +kernel) (by decide +kernel)
set_option maxRecDepth 20000 in
theorem gX6_grows_X6_at : GoodIn wsX6_grows (va_wsS RX6 28 yX6_at wsX6_at) := goodIn_app (goodIn_of _ (by decide +kernel)) ggX6_grows_X6_at
set_option maxRecDepth 20000 in
theorem ggX6_grows_X6_free : GoodIn wsX6_grows wsX6_free := goodIn_r _ [9, 10, 11, 12, 4, 13, 1, 14, 15, 16, 53, 54, 55, 56, 57, 58, 59, 60, 61, 62] (by decide +kernel) (by decide +kernel)
set_option maxRecDepth 20000 in
theorem gX6_grows_X6_free : GoodIn wsX6_grows (wsV RX6 56 RX6 yX6_free wsX6_free) := goodIn_app (goodIn_of _ (by decide +kernel)) ggX6_grows_X6_free
set_option maxRecDepth 20000 in
theorem ggX6_grows_X6_giver : GoodIn wsX6_grows wsX6_giver := goodIn_r _ [20, 21, 22, 23, 4, 24, 1, 2, 3, 5, 53, 54, 55, 56, 57, 58, 59, 60, 61, 62] (by decide +kernel) (by decide +kernel)
set_option maxRecDepth 20000 in
theorem gX6_grows_X6_giver : GoodIn wsX6_grows (wsV RX6 60 RX6 yX6_giver wsX6_giver) := goodIn_app (goodIn_of _ (by decide +kernel)) ggX6_grows_X6_giver
set_option maxRecDepth 20000 in
theorem ggX6_grows_X6_givesBack : GoodIn wsX6_grows wsX6_givesBack := goodIn_r _ [28, 1, 2, 3, 4, 5, 29, 30, 31, 32, 53, 54, 55, 56, 57, 58, 59, 60, 61, 62] (by decide +kernel) (by decide +kernel)
set_option maxRecDepth 20000 in
theorem gX6_grows_X6_givesBack : GoodIn wsX6_grows (wsV RX6 63 RX6 yX6_givesBack wsX6_givesBack) := goodIn_app (goodIn_of _ (by decide +kernel)) ggX6_grows_X6_givesBack
set_option maxRecDepth 20000 in
theorem ggX6_grows_X6_blockOf : GoodIn wsX6_grows wsX6_blockOf := goodIn_r _ [36, 1, 53, 54, 55, 56, 57, 58, 59, 60, 61, 62] (by decide +kernel) (by decide +kernel)
set_option maxRecDepth 20000 in
theorem gX6_grows_X6_blockOf : GoodIn wsX6_grows (wsV RX6 40 RX6 yX6_blockOf wsX6_blockOf) := goodIn_app (goodIn_of _ (by decide +kernel)) ggX6_grows_X6_blockOf
set_option maxRecDepth 20000 in
theorem ggX6_grows_X6_adds : GoodIn wsX6_grows wsX6_adds := goodIn_r _ [40, 1, 10, 11, 12, 4, 13, 2, 3, 5, 53, 54, 55, 56, 57, 58, 59, 60, 61, 62] (by decide +kernel) (by decide +kernel)
set_option maxRecDepth 20000 in
theorem gX6_grows_X6_adds : GoodIn wsX6_grows (wsV RX6 66 RX6 yX6_adds wsX6_adds) := goodIn_app (goodIn_of _ (by decide +kernel)) ggX6_grows_X6_adds
set_option maxRecDepth 20000 in
theorem ggX6_grows_X6_chooses : GoodIn wsX6_grows wsX6_chooses := goodIn_r _ [44, 1, 45, 46, 47, 4, 48, 10, 11, 12, 13, 49, 50, 51, 52, 53, 54, 55, 56, 57, 58, 59, 60, 61, 62] (by decide +kernel) (by decide +kernel)
set_option maxRecDepth 20000 in
theorem gX6_grows_X6_chooses : GoodIn wsX6_grows (wsV RX6 70 RX6 yX6_chooses wsX6_chooses) := goodIn_app (goodIn_of _ (by decide +kernel)) ggX6_grows_X6_chooses
theorem dX6_grows_0 : decode cX6_grows 0 = .ok (.iload_n 1, 1) := by decide +kernel
theorem dX6_grows_1 : decode cX6_grows 1 = .ok (.iload_n 2, 1) := by decide +kernel
theorem dX6_grows_2 : decode cX6_grows 2 = .ok (.invokestatic 28, 3) := by decide +kernel
theorem dX6_grows_5 : decode cX6_grows 5 = .ok (.istore 4, 2) := by decide +kernel
theorem dX6_grows_7 : decode cX6_grows 7 = .ok (.aload_n 0, 1) := by decide +kernel
theorem dX6_grows_8 : decode cX6_grows 8 = .ok (.iload_n 1, 1) := by decide +kernel
theorem dX6_grows_9 : decode cX6_grows 9 = .ok (.invokevirtual 56, 3) := by decide +kernel
theorem dX6_grows_12 : decode cX6_grows 12 = .ok (.iload_n 3, 1) := by decide +kernel
theorem dX6_grows_13 : decode cX6_grows 13 = .ok (.if_icmp .ge 33, 3) := by decide +kernel
theorem dX6_grows_16 : decode cX6_grows 16 = .ok (.aload_n 0, 1) := by decide +kernel
theorem dX6_grows_17 : decode cX6_grows 17 = .ok (.iload_n 1, 1) := by decide +kernel
theorem dX6_grows_18 : decode cX6_grows 18 = .ok (.aload_n 0, 1) := by decide +kernel
theorem dX6_grows_19 : decode cX6_grows 19 = .ok (.iload_n 1, 1) := by decide +kernel
theorem dX6_grows_20 : decode cX6_grows 20 = .ok (.iload_n 2, 1) := by decide +kernel
theorem dX6_grows_21 : decode cX6_grows 21 = .ok (.invokevirtual 60, 3) := by decide +kernel
theorem dX6_grows_24 : decode cX6_grows 24 = .ok (.invokevirtual 63, 3) := by decide +kernel
theorem dX6_grows_27 : decode cX6_grows 27 = .ok (.istore 5, 2) := by decide +kernel
theorem dX6_grows_29 : decode cX6_grows 29 = .ok (.aload_n 0, 1) := by decide +kernel
theorem dX6_grows_30 : decode cX6_grows 30 = .ok (.getfield 7, 3) := by decide +kernel
theorem dX6_grows_33 : decode cX6_grows 33 = .ok (.iload_n 1, 1) := by decide +kernel
theorem dX6_grows_34 : decode cX6_grows 34 = .ok (.sipush 244, 3) := by decide +kernel
theorem dX6_grows_37 : decode cX6_grows 37 = .ok (.iadd, 1) := by decide +kernel
theorem dX6_grows_38 : decode cX6_grows 38 = .ok (.dup2, 1) := by decide +kernel
theorem dX6_grows_39 : decode cX6_grows 39 = .ok (.iaload, 1) := by decide +kernel
theorem dX6_grows_40 : decode cX6_grows 40 = .ok (.iconst 1, 1) := by decide +kernel
theorem dX6_grows_41 : decode cX6_grows 41 = .ok (.iadd, 1) := by decide +kernel
theorem dX6_grows_42 : decode cX6_grows 42 = .ok (.iastore, 1) := by decide +kernel
theorem dX6_grows_43 : decode cX6_grows 43 = .ok (.goto (-36), 3) := by decide +kernel
theorem dX6_grows_46 : decode cX6_grows 46 = .ok (.aload_n 0, 1) := by decide +kernel
theorem dX6_grows_47 : decode cX6_grows 47 = .ok (.getfield 7, 3) := by decide +kernel
theorem dX6_grows_50 : decode cX6_grows 50 = .ok (.iload 4, 2) := by decide +kernel
theorem dX6_grows_52 : decode cX6_grows 52 = .ok (.iconst 5, 1) := by decide +kernel
theorem dX6_grows_53 : decode cX6_grows 53 = .ok (.iadd, 1) := by decide +kernel
theorem dX6_grows_54 : decode cX6_grows 54 = .ok (.iaload, 1) := by decide +kernel
theorem dX6_grows_55 : decode cX6_grows 55 = .ok (.aload_n 0, 1) := by decide +kernel
theorem dX6_grows_56 : decode cX6_grows 56 = .ok (.getfield 7, 3) := by decide +kernel
theorem dX6_grows_59 : decode cX6_grows 59 = .ok (.iload_n 1, 1) := by decide +kernel
theorem dX6_grows_60 : decode cX6_grows 60 = .ok (.sipush 240, 3) := by decide +kernel
theorem dX6_grows_63 : decode cX6_grows 63 = .ok (.iadd, 1) := by decide +kernel
theorem dX6_grows_64 : decode cX6_grows 64 = .ok (.iconst 0, 1) := by decide +kernel
theorem dX6_grows_65 : decode cX6_grows 65 = .ok (.iadd, 1) := by decide +kernel
theorem dX6_grows_66 : decode cX6_grows 66 = .ok (.iaload, 1) := by decide +kernel
theorem dX6_grows_67 : decode cX6_grows 67 = .ok (.if_icmp .ge 15, 3) := by decide +kernel
theorem dX6_grows_70 : decode cX6_grows 70 = .ok (.aload_n 0, 1) := by decide +kernel
theorem dX6_grows_71 : decode cX6_grows 71 = .ok (.getfield 7, 3) := by decide +kernel
theorem dX6_grows_74 : decode cX6_grows 74 = .ok (.iload 4, 2) := by decide +kernel
theorem dX6_grows_76 : decode cX6_grows 76 = .ok (.iconst 5, 1) := by decide +kernel
theorem dX6_grows_77 : decode cX6_grows 77 = .ok (.iadd, 1) := by decide +kernel
theorem dX6_grows_78 : decode cX6_grows 78 = .ok (.iaload, 1) := by decide +kernel
theorem dX6_grows_79 : decode cX6_grows 79 = .ok (.goto 15, 3) := by decide +kernel
theorem dX6_grows_82 : decode cX6_grows 82 = .ok (.aload_n 0, 1) := by decide +kernel
theorem dX6_grows_83 : decode cX6_grows 83 = .ok (.getfield 7, 3) := by decide +kernel
theorem dX6_grows_86 : decode cX6_grows 86 = .ok (.iload_n 1, 1) := by decide +kernel
theorem dX6_grows_87 : decode cX6_grows 87 = .ok (.sipush 240, 3) := by decide +kernel
theorem dX6_grows_90 : decode cX6_grows 90 = .ok (.iadd, 1) := by decide +kernel
theorem dX6_grows_91 : decode cX6_grows 91 = .ok (.iconst 0, 1) := by decide +kernel
theorem dX6_grows_92 : decode cX6_grows 92 = .ok (.iadd, 1) := by decide +kernel
theorem dX6_grows_93 : decode cX6_grows 93 = .ok (.iaload, 1) := by decide +kernel
theorem dX6_grows_94 : decode cX6_grows 94 = .ok (.istore 5, 2) := by decide +kernel
theorem dX6_grows_96 : decode cX6_grows 96 = .ok (.iload_n 3, 1) := by decide +kernel
theorem dX6_grows_97 : decode cX6_grows 97 = .ok (.iload 5, 2) := by decide +kernel
theorem dX6_grows_99 : decode cX6_grows 99 = .ok (.iadd, 1) := by decide +kernel
theorem dX6_grows_100 : decode cX6_grows 100 = .ok (.aload_n 0, 1) := by decide +kernel
theorem dX6_grows_101 : decode cX6_grows 101 = .ok (.iload_n 1, 1) := by decide +kernel
theorem dX6_grows_102 : decode cX6_grows 102 = .ok (.invokevirtual 56, 3) := by decide +kernel
theorem dX6_grows_105 : decode cX6_grows 105 = .ok (.if_icmp .ge 10, 3) := by decide +kernel
theorem dX6_grows_108 : decode cX6_grows 108 = .ok (.iload_n 3, 1) := by decide +kernel
theorem dX6_grows_109 : decode cX6_grows 109 = .ok (.iload 5, 2) := by decide +kernel
theorem dX6_grows_111 : decode cX6_grows 111 = .ok (.iadd, 1) := by decide +kernel
theorem dX6_grows_112 : decode cX6_grows 112 = .ok (.goto 8, 3) := by decide +kernel
theorem dX6_grows_115 : decode cX6_grows 115 = .ok (.aload_n 0, 1) := by decide +kernel
theorem dX6_grows_116 : decode cX6_grows 116 = .ok (.iload_n 1, 1) := by decide +kernel
theorem dX6_grows_117 : decode cX6_grows 117 = .ok (.invokevirtual 56, 3) := by decide +kernel
theorem dX6_grows_120 : decode cX6_grows 120 = .ok (.istore 6, 2) := by decide +kernel
theorem dX6_grows_122 : decode cX6_grows 122 = .ok (.iconst 0, 1) := by decide +kernel
theorem dX6_grows_123 : decode cX6_grows 123 = .ok (.istore 7, 2) := by decide +kernel
theorem dX6_grows_125 : decode cX6_grows 125 = .ok (.aload_n 0, 1) := by decide +kernel
theorem dX6_grows_126 : decode cX6_grows 126 = .ok (.getfield 7, 3) := by decide +kernel
theorem dX6_grows_129 : decode cX6_grows 129 = .ok (.iload 4, 2) := by decide +kernel
theorem dX6_grows_131 : decode cX6_grows 131 = .ok (.iconst 1, 1) := by decide +kernel
theorem dX6_grows_132 : decode cX6_grows 132 = .ok (.iadd, 1) := by decide +kernel
theorem dX6_grows_133 : decode cX6_grows 133 = .ok (.iaload, 1) := by decide +kernel
theorem dX6_grows_134 : decode cX6_grows 134 = .ok (.ifCond .le 32, 3) := by decide +kernel
theorem dX6_grows_137 : decode cX6_grows 137 = .ok (.aload_n 0, 1) := by decide +kernel
theorem dX6_grows_138 : decode cX6_grows 138 = .ok (.iload_n 1, 1) := by decide +kernel
theorem dX6_grows_139 : decode cX6_grows 139 = .ok (.iload_n 2, 1) := by decide +kernel
theorem dX6_grows_140 : decode cX6_grows 140 = .ok (.aload_n 0, 1) := by decide +kernel
theorem dX6_grows_141 : decode cX6_grows 141 = .ok (.iload_n 1, 1) := by decide +kernel
theorem dX6_grows_142 : decode cX6_grows 142 = .ok (.iload_n 2, 1) := by decide +kernel
theorem dX6_grows_143 : decode cX6_grows 143 = .ok (.aload_n 0, 1) := by decide +kernel
theorem dX6_grows_144 : decode cX6_grows 144 = .ok (.getfield 7, 3) := by decide +kernel
theorem dX6_grows_147 : decode cX6_grows 147 = .ok (.iload 4, 2) := by decide +kernel
theorem dX6_grows_149 : decode cX6_grows 149 = .ok (.iconst 1, 1) := by decide +kernel
theorem dX6_grows_150 : decode cX6_grows 150 = .ok (.iadd, 1) := by decide +kernel
theorem dX6_grows_151 : decode cX6_grows 151 = .ok (.iaload, 1) := by decide +kernel
theorem dX6_grows_152 : decode cX6_grows 152 = .ok (.iconst 1, 1) := by decide +kernel
theorem dX6_grows_153 : decode cX6_grows 153 = .ok (.isub, 1) := by decide +kernel
theorem dX6_grows_154 : decode cX6_grows 154 = .ok (.invokevirtual 40, 3) := by decide +kernel
theorem dX6_grows_157 : decode cX6_grows 157 = .ok (.iconst 1, 1) := by decide +kernel
theorem dX6_grows_158 : decode cX6_grows 158 = .ok (.iadd, 1) := by decide +kernel
theorem dX6_grows_159 : decode cX6_grows 159 = .ok (.iload 6, 2) := by decide +kernel
theorem dX6_grows_161 : decode cX6_grows 161 = .ok (.invokevirtual 66, 3) := by decide +kernel
theorem dX6_grows_164 : decode cX6_grows 164 = .ok (.istore 7, 2) := by decide +kernel
theorem dX6_grows_166 : decode cX6_grows 166 = .ok (.iload 7, 2) := by decide +kernel
theorem dX6_grows_168 : decode cX6_grows 168 = .ok (.iload 6, 2) := by decide +kernel
theorem dX6_grows_170 : decode cX6_grows 170 = .ok (.if_icmp .ge 32, 3) := by decide +kernel
theorem dX6_grows_173 : decode cX6_grows 173 = .ok (.iload 7, 2) := by decide +kernel
theorem dX6_grows_175 : decode cX6_grows 175 = .ok (.aload_n 0, 1) := by decide +kernel
theorem dX6_grows_176 : decode cX6_grows 176 = .ok (.iload_n 1, 1) := by decide +kernel
theorem dX6_grows_177 : decode cX6_grows 177 = .ok (.iload_n 2, 1) := by decide +kernel
theorem dX6_grows_178 : decode cX6_grows 178 = .ok (.aload_n 0, 1) := by decide +kernel
theorem dX6_grows_179 : decode cX6_grows 179 = .ok (.iload_n 1, 1) := by decide +kernel
theorem dX6_grows_180 : decode cX6_grows 180 = .ok (.iload 6, 2) := by decide +kernel
theorem dX6_grows_182 : decode cX6_grows 182 = .ok (.iload 7, 2) := by decide +kernel
theorem dX6_grows_184 : decode cX6_grows 184 = .ok (.isub, 1) := by decide +kernel
theorem dX6_grows_185 : decode cX6_grows 185 = .ok (.invokevirtual 70, 3) := by decide +kernel
theorem dX6_grows_188 : decode cX6_grows 188 = .ok (.iload 6, 2) := by decide +kernel
theorem dX6_grows_190 : decode cX6_grows 190 = .ok (.iload 7, 2) := by decide +kernel
theorem dX6_grows_192 : decode cX6_grows 192 = .ok (.isub, 1) := by decide +kernel
theorem dX6_grows_193 : decode cX6_grows 193 = .ok (.invokevirtual 66, 3) := by decide +kernel
theorem dX6_grows_196 : decode cX6_grows 196 = .ok (.iadd, 1) := by decide +kernel
theorem dX6_grows_197 : decode cX6_grows 197 = .ok (.istore 7, 2) := by decide +kernel
theorem dX6_grows_199 : decode cX6_grows 199 = .ok (.goto (-33), 3) := by decide +kernel
theorem dX6_grows_202 : decode cX6_grows 202 = .ok (.iload 6, 2) := by decide +kernel
theorem dX6_grows_204 : decode cX6_grows 204 = .ok (.iload_n 3, 1) := by decide +kernel
theorem dX6_grows_205 : decode cX6_grows 205 = .ok (.if_icmp .le 44, 3) := by decide +kernel
theorem dX6_grows_208 : decode cX6_grows 208 = .ok (.aload_n 0, 1) := by decide +kernel
theorem dX6_grows_209 : decode cX6_grows 209 = .ok (.getfield 7, 3) := by decide +kernel
theorem dX6_grows_212 : decode cX6_grows 212 = .ok (.iload 4, 2) := by decide +kernel
theorem dX6_grows_214 : decode cX6_grows 214 = .ok (.iconst 5, 1) := by decide +kernel
theorem dX6_grows_215 : decode cX6_grows 215 = .ok (.iadd, 1) := by decide +kernel
theorem dX6_grows_216 : decode cX6_grows 216 = .ok (.iconst 2, 1) := by decide +kernel
theorem dX6_grows_217 : decode cX6_grows 217 = .ok (.aload_n 0, 1) := by decide +kernel
theorem dX6_grows_218 : decode cX6_grows 218 = .ok (.getfield 7, 3) := by decide +kernel
theorem dX6_grows_221 : decode cX6_grows 221 = .ok (.iload 4, 2) := by decide +kernel
theorem dX6_grows_223 : decode cX6_grows 223 = .ok (.iconst 5, 1) := by decide +kernel
theorem dX6_grows_224 : decode cX6_grows 224 = .ok (.iadd, 1) := by decide +kernel
theorem dX6_grows_225 : decode cX6_grows 225 = .ok (.iaload, 1) := by decide +kernel
theorem dX6_grows_226 : decode cX6_grows 226 = .ok (.imul, 1) := by decide +kernel
theorem dX6_grows_227 : decode cX6_grows 227 = .ok (.bipush 16, 2) := by decide +kernel
theorem dX6_grows_229 : decode cX6_grows 229 = .ok (.if_icmp .le 8, 3) := by decide +kernel
theorem dX6_grows_232 : decode cX6_grows 232 = .ok (.bipush 16, 2) := by decide +kernel
theorem dX6_grows_234 : decode cX6_grows 234 = .ok (.goto 14, 3) := by decide +kernel
theorem dX6_grows_237 : decode cX6_grows 237 = .ok (.iconst 2, 1) := by decide +kernel
theorem dX6_grows_238 : decode cX6_grows 238 = .ok (.aload_n 0, 1) := by decide +kernel
theorem dX6_grows_239 : decode cX6_grows 239 = .ok (.getfield 7, 3) := by decide +kernel
theorem dX6_grows_242 : decode cX6_grows 242 = .ok (.iload 4, 2) := by decide +kernel
theorem dX6_grows_244 : decode cX6_grows 244 = .ok (.iconst 5, 1) := by decide +kernel
theorem dX6_grows_245 : decode cX6_grows 245 = .ok (.iadd, 1) := by decide +kernel
theorem dX6_grows_246 : decode cX6_grows 246 = .ok (.iaload, 1) := by decide +kernel
theorem dX6_grows_247 : decode cX6_grows 247 = .ok (.imul, 1) := by decide +kernel
theorem dX6_grows_248 : decode cX6_grows 248 = .ok (.iastore, 1) := by decide +kernel
theorem dX6_grows_249 : decode cX6_grows 249 = .ok (.return_, 1) := by decide +kernel
set_option maxRecDepth 20000 in
theorem ggX6_canAppend_X6_sumOfLent : GoodIn wsX6_canAppend wsX6_sumOfLent := goodIn_r _ [5, 6, 7, 8, 4, 9, 10, 11, 12, 13, 25, 26, 27, 28, 29, 30, 31, 32, 33, 34] (by decide +kernel) (by decide +kernel)
set_option maxRecDepth 20000 in
theorem gX6_canAppend_X6_sumOfLent : GoodIn wsX6_canAppend (wsV RX6 73 RX6 yX6_sumOfLent wsX6_sumOfLent) := goodIn_app (goodIn_of _ (by decide +kernel)) ggX6_canAppend_X6_sumOfLent
set_option maxRecDepth 20000 in
theorem ggX6_canAppend_X6_free : GoodIn wsX6_canAppend wsX6_free := goodIn_r _ [17, 18, 19, 20, 4, 21, 10, 22, 23, 24, 25, 26, 27, 28, 29, 30, 31, 32, 33, 34] (by decide +kernel) (by decide +kernel)
set_option maxRecDepth 20000 in
theorem gX6_canAppend_X6_free : GoodIn wsX6_canAppend (wsV RX6 56 RX6 yX6_free wsX6_free) := goodIn_app (goodIn_of _ (by decide +kernel)) ggX6_canAppend_X6_free
theorem dX6_canAppend_0 : decode cX6_canAppend 0 = .ok (.iload_n 2, 1) := by decide +kernel
theorem dX6_canAppend_1 : decode cX6_canAppend 1 = .ok (.aload_n 0, 1) := by decide +kernel
theorem dX6_canAppend_2 : decode cX6_canAppend 2 = .ok (.iconst 0, 1) := by decide +kernel
theorem dX6_canAppend_3 : decode cX6_canAppend 3 = .ok (.invokevirtual 73, 3) := by decide +kernel
theorem dX6_canAppend_6 : decode cX6_canAppend 6 = .ok (.aload_n 0, 1) := by decide +kernel
theorem dX6_canAppend_7 : decode cX6_canAppend 7 = .ok (.iconst 0, 1) := by decide +kernel
theorem dX6_canAppend_8 : decode cX6_canAppend 8 = .ok (.invokevirtual 56, 3) := by decide +kernel
theorem dX6_canAppend_11 : decode cX6_canAppend 11 = .ok (.iadd, 1) := by decide +kernel
theorem dX6_canAppend_12 : decode cX6_canAppend 12 = .ok (.if_icmp .gt 7, 3) := by decide +kernel
theorem dX6_canAppend_15 : decode cX6_canAppend 15 = .ok (.iconst 1, 1) := by decide +kernel
theorem dX6_canAppend_16 : decode cX6_canAppend 16 = .ok (.goto 4, 3) := by decide +kernel
theorem dX6_canAppend_19 : decode cX6_canAppend 19 = .ok (.iconst 0, 1) := by decide +kernel
theorem dX6_canAppend_20 : decode cX6_canAppend 20 = .ok (.ireturn, 1) := by decide +kernel
set_option maxRecDepth 20000 in
theorem ggX6_appends_X6_at : GoodIn wsX6_appends wsX6_at := goodIn_r _ [5] (by decide +kernel) (by decide +kernel)
set_option maxRecDepth 20000 in
theorem gX6_appends_X6_at : GoodIn wsX6_appends (va_wsS RX6 28 yX6_at wsX6_at) := goodIn_app (goodIn_of _ (by decide +kernel)) ggX6_appends_X6_at
set_option maxRecDepth 20000 in
theorem ggX6_appends_X6_lent : GoodIn wsX6_appends wsX6_lent := goodIn_r _ [9, 1, 2, 3, 4, 5, 61, 62, 63, 64, 65, 66, 67, 68, 69, 70] (by decide +kernel) (by decide +kernel)
set_option maxRecDepth 20000 in
theorem gX6_appends_X6_lent : GoodIn wsX6_appends (wsV RX6 47 RX6 yX6_lent wsX6_lent) := goodIn_app (goodIn_of _ (by decide +kernel)) ggX6_appends_X6_lent
set_option maxRecDepth 20000 in
theorem ggX6_appends_X6_grows : GoodIn wsX6_appends wsX6_grows := goodIn_r _ [13, 1, 2, 3, 4, 5, 14, 15, 16, 17, 18, 19, 20, 21, 22, 23, 24, 25, 26, 27, 28, 6, 7, 8, 9, 29, 30, 31, 32, 33, 34, 35, 36, 37, 38, 39, 40, 41, 42, 43, 44, 45, 46, 47, 48, 49, 50, 51, 52, 53, 54, 55, 56, 61, 62, 63, 64, 65, 66, 67, 68, 69, 70] (by decide +kernel) (by decide +kernel)
set_option maxRecDepth 20000 in
theorem gX6_appends_X6_grows : GoodIn wsX6_appends (wsV RX6 76 RX6 yX6_grows wsX6_grows) := goodIn_app (goodIn_of _ (by decide +kernel)) ggX6_appends_X6_grows
set_option maxRecDepth 20000 in
theorem ggX6_appends_X6_blockOf : GoodIn wsX6_appends wsX6_blockOf := goodIn_r _ [40, 1, 61, 62, 63, 64, 65, 66, 67, 68, 69, 70] (by decide +kernel) (by decide +kernel)
set_option maxRecDepth 20000 in
theorem gX6_appends_X6_blockOf : GoodIn wsX6_appends (wsV RX6 40 RX6 yX6_blockOf wsX6_blockOf) := goodIn_app (goodIn_of _ (by decide +kernel)) ggX6_appends_X6_blockOf
set_option maxRecDepth 20000 in
theorem ggX6_appends_X6_extents : GoodIn wsX6_appends wsX6_extents := goodIn_r _ [60, 1, 2, 3, 4, 5, 37, 38, 39, 40, 22, 23, 24, 61, 62, 63, 64, 65, 66, 67, 68, 69, 70] (by decide +kernel) (by decide +kernel)
set_option maxRecDepth 20000 in
theorem gX6_appends_X6_extents : GoodIn wsX6_appends (wsV RX6 80 RX6 yX6_extents wsX6_extents) := goodIn_app (goodIn_of _ (by decide +kernel)) ggX6_appends_X6_extents
theorem dX6_appends_0 : decode cX6_appends 0 = .ok (.iload_n 1, 1) := by decide +kernel
theorem dX6_appends_1 : decode cX6_appends 1 = .ok (.iload_n 2, 1) := by decide +kernel
theorem dX6_appends_2 : decode cX6_appends 2 = .ok (.invokestatic 28, 3) := by decide +kernel
theorem dX6_appends_5 : decode cX6_appends 5 = .ok (.istore 5, 2) := by decide +kernel
theorem dX6_appends_7 : decode cX6_appends 7 = .ok (.iload_n 3, 1) := by decide +kernel
theorem dX6_appends_8 : decode cX6_appends 8 = .ok (.aload_n 0, 1) := by decide +kernel
theorem dX6_appends_9 : decode cX6_appends 9 = .ok (.iload_n 1, 1) := by decide +kernel
theorem dX6_appends_10 : decode cX6_appends 10 = .ok (.iload_n 2, 1) := by decide +kernel
theorem dX6_appends_11 : decode cX6_appends 11 = .ok (.invokevirtual 47, 3) := by decide +kernel
theorem dX6_appends_14 : decode cX6_appends 14 = .ok (.if_icmp .le 17, 3) := by decide +kernel
theorem dX6_appends_17 : decode cX6_appends 17 = .ok (.aload_n 0, 1) := by decide +kernel
theorem dX6_appends_18 : decode cX6_appends 18 = .ok (.iload_n 1, 1) := by decide +kernel
theorem dX6_appends_19 : decode cX6_appends 19 = .ok (.iload_n 2, 1) := by decide +kernel
theorem dX6_appends_20 : decode cX6_appends 20 = .ok (.iload_n 3, 1) := by decide +kernel
theorem dX6_appends_21 : decode cX6_appends 21 = .ok (.aload_n 0, 1) := by decide +kernel
theorem dX6_appends_22 : decode cX6_appends 22 = .ok (.iload_n 1, 1) := by decide +kernel
theorem dX6_appends_23 : decode cX6_appends 23 = .ok (.iload_n 2, 1) := by decide +kernel
theorem dX6_appends_24 : decode cX6_appends 24 = .ok (.invokevirtual 47, 3) := by decide +kernel
theorem dX6_appends_27 : decode cX6_appends 27 = .ok (.isub, 1) := by decide +kernel
theorem dX6_appends_28 : decode cX6_appends 28 = .ok (.invokevirtual 76, 3) := by decide +kernel
theorem dX6_appends_31 : decode cX6_appends 31 = .ok (.iconst 0, 1) := by decide +kernel
theorem dX6_appends_32 : decode cX6_appends 32 = .ok (.istore 6, 2) := by decide +kernel
theorem dX6_appends_34 : decode cX6_appends 34 = .ok (.iload 6, 2) := by decide +kernel
theorem dX6_appends_36 : decode cX6_appends 36 = .ok (.iload_n 3, 1) := by decide +kernel
theorem dX6_appends_37 : decode cX6_appends 37 = .ok (.if_icmp .ge 46, 3) := by decide +kernel
theorem dX6_appends_40 : decode cX6_appends 40 = .ok (.aload_n 0, 1) := by decide +kernel
theorem dX6_appends_41 : decode cX6_appends 41 = .ok (.getfield 7, 3) := by decide +kernel
theorem dX6_appends_44 : decode cX6_appends 44 = .ok (.iload_n 1, 1) := by decide +kernel
theorem dX6_appends_45 : decode cX6_appends 45 = .ok (.aload_n 0, 1) := by decide +kernel
theorem dX6_appends_46 : decode cX6_appends 46 = .ok (.iload_n 1, 1) := by decide +kernel
theorem dX6_appends_47 : decode cX6_appends 47 = .ok (.iload_n 2, 1) := by decide +kernel
theorem dX6_appends_48 : decode cX6_appends 48 = .ok (.aload_n 0, 1) := by decide +kernel
theorem dX6_appends_49 : decode cX6_appends 49 = .ok (.getfield 7, 3) := by decide +kernel
theorem dX6_appends_52 : decode cX6_appends 52 = .ok (.iload 5, 2) := by decide +kernel
theorem dX6_appends_54 : decode cX6_appends 54 = .ok (.iconst 2, 1) := by decide +kernel
theorem dX6_appends_55 : decode cX6_appends 55 = .ok (.iadd, 1) := by decide +kernel
theorem dX6_appends_56 : decode cX6_appends 56 = .ok (.iaload, 1) := by decide +kernel
theorem dX6_appends_57 : decode cX6_appends 57 = .ok (.invokevirtual 40, 3) := by decide +kernel
theorem dX6_appends_60 : decode cX6_appends 60 = .ok (.iadd, 1) := by decide +kernel
theorem dX6_appends_61 : decode cX6_appends 61 = .ok (.iload 4, 2) := by decide +kernel
theorem dX6_appends_63 : decode cX6_appends 63 = .ok (.iastore, 1) := by decide +kernel
theorem dX6_appends_64 : decode cX6_appends 64 = .ok (.aload_n 0, 1) := by decide +kernel
theorem dX6_appends_65 : decode cX6_appends 65 = .ok (.getfield 7, 3) := by decide +kernel
theorem dX6_appends_68 : decode cX6_appends 68 = .ok (.iload 5, 2) := by decide +kernel
theorem dX6_appends_70 : decode cX6_appends 70 = .ok (.iconst 2, 1) := by decide +kernel
theorem dX6_appends_71 : decode cX6_appends 71 = .ok (.iadd, 1) := by decide +kernel
theorem dX6_appends_72 : decode cX6_appends 72 = .ok (.dup2, 1) := by decide +kernel
theorem dX6_appends_73 : decode cX6_appends 73 = .ok (.iaload, 1) := by decide +kernel
theorem dX6_appends_74 : decode cX6_appends 74 = .ok (.iconst 1, 1) := by decide +kernel
theorem dX6_appends_75 : decode cX6_appends 75 = .ok (.iadd, 1) := by decide +kernel
theorem dX6_appends_76 : decode cX6_appends 76 = .ok (.iastore, 1) := by decide +kernel
theorem dX6_appends_77 : decode cX6_appends 77 = .ok (.iinc 6 1, 3) := by decide +kernel
theorem dX6_appends_80 : decode cX6_appends 80 = .ok (.goto (-46), 3) := by decide +kernel
theorem dX6_appends_83 : decode cX6_appends 83 = .ok (.aload_n 0, 1) := by decide +kernel
theorem dX6_appends_84 : decode cX6_appends 84 = .ok (.getfield 7, 3) := by decide +kernel
theorem dX6_appends_87 : decode cX6_appends 87 = .ok (.iload_n 1, 1) := by decide +kernel
theorem dX6_appends_88 : decode cX6_appends 88 = .ok (.sipush 242, 3) := by decide +kernel
theorem dX6_appends_91 : decode cX6_appends 91 = .ok (.iadd, 1) := by decide +kernel
theorem dX6_appends_92 : decode cX6_appends 92 = .ok (.dup2, 1) := by decide +kernel
theorem dX6_appends_93 : decode cX6_appends 93 = .ok (.iaload, 1) := by decide +kernel
theorem dX6_appends_94 : decode cX6_appends 94 = .ok (.iload_n 3, 1) := by decide +kernel
theorem dX6_appends_95 : decode cX6_appends 95 = .ok (.iadd, 1) := by decide +kernel
theorem dX6_appends_96 : decode cX6_appends 96 = .ok (.iastore, 1) := by decide +kernel
theorem dX6_appends_97 : decode cX6_appends 97 = .ok (.aload_n 0, 1) := by decide +kernel
theorem dX6_appends_98 : decode cX6_appends 98 = .ok (.iload_n 1, 1) := by decide +kernel
theorem dX6_appends_99 : decode cX6_appends 99 = .ok (.iload_n 2, 1) := by decide +kernel
theorem dX6_appends_100 : decode cX6_appends 100 = .ok (.invokevirtual 80, 3) := by decide +kernel
theorem dX6_appends_103 : decode cX6_appends 103 = .ok (.ireturn, 1) := by decide +kernel
set_option maxRecDepth 20000 in
theorem ggX6_openError_X6_isThere : GoodIn wsX6_openError wsX6_isThere := goodIn_r _ [5, 6, 7, 8, 4, 9, 10, 11, 12, 17, 18, 19, 20, 21, 22, 23, 24, 25, 26] (by decide +kernel) (by decide +kernel)
set_option maxRecDepth 20000 in
theorem gX6_openError_X6_isThere : GoodIn wsX6_openError (wsV RX6 83 RX6 yX6_isThere wsX6_isThere) := goodIn_app (goodIn_of _ (by decide +kernel)) ggX6_openError_X6_isThere
set_option maxRecDepth 20000 in
theorem ggX6_openError_X6_isOpen : GoodIn wsX6_openError wsX6_isOpen := goodIn_r _ [16, 6, 10, 11, 4, 12, 17, 18, 19, 20, 21, 22, 23, 24, 25, 26] (by decide +kernel) (by decide +kernel)
set_option maxRecDepth 20000 in
theorem gX6_openError_X6_isOpen : GoodIn wsX6_openError (wsV RX6 87 RX6 yX6_isOpen wsX6_isOpen) := goodIn_app (goodIn_of _ (by decide +kernel)) ggX6_openError_X6_isOpen
theorem dX6_openError_0 : decode cX6_openError 0 = .ok (.aload_n 0, 1) := by decide +kernel
theorem dX6_openError_1 : decode cX6_openError 1 = .ok (.iload_n 1, 1) := by decide +kernel
theorem dX6_openError_2 : decode cX6_openError 2 = .ok (.invokevirtual 83, 3) := by decide +kernel
theorem dX6_openError_5 : decode cX6_openError 5 = .ok (.ifCond .ne 7, 3) := by decide +kernel
theorem dX6_openError_8 : decode cX6_openError 8 = .ok (.iconst (-1), 1) := by decide +kernel
theorem dX6_openError_9 : decode cX6_openError 9 = .ok (.goto 17, 3) := by decide +kernel
theorem dX6_openError_12 : decode cX6_openError 12 = .ok (.aload_n 0, 1) := by decide +kernel
theorem dX6_openError_13 : decode cX6_openError 13 = .ok (.iload_n 1, 1) := by decide +kernel
theorem dX6_openError_14 : decode cX6_openError 14 = .ok (.invokevirtual 87, 3) := by decide +kernel
theorem dX6_openError_17 : decode cX6_openError 17 = .ok (.ifCond .eq 8, 3) := by decide +kernel
theorem dX6_openError_20 : decode cX6_openError 20 = .ok (.bipush (-4), 2) := by decide +kernel
theorem dX6_openError_22 : decode cX6_openError 22 = .ok (.goto 4, 3) := by decide +kernel
theorem dX6_openError_25 : decode cX6_openError 25 = .ok (.iconst 0, 1) := by decide +kernel
theorem dX6_openError_26 : decode cX6_openError 26 = .ok (.ireturn, 1) := by decide +kernel
set_option maxRecDepth 20000 in
theorem ggX6_closeError_X6_isThere : GoodIn wsX6_closeError wsX6_isThere := goodIn_r _ [5, 6, 7, 8, 4, 9, 10, 11, 12, 17, 18, 19, 20, 21, 22, 23, 24, 25, 26] (by decide +kernel) (by decide +kernel)
set_option maxRecDepth 20000 in
theorem gX6_closeError_X6_isThere : GoodIn wsX6_closeError (wsV RX6 83 RX6 yX6_isThere wsX6_isThere) := goodIn_app (goodIn_of _ (by decide +kernel)) ggX6_closeError_X6_isThere
set_option maxRecDepth 20000 in
theorem ggX6_closeError_X6_isOpen : GoodIn wsX6_closeError wsX6_isOpen := goodIn_r _ [16, 6, 10, 11, 4, 12, 17, 18, 19, 20, 21, 22, 23, 24, 25, 26] (by decide +kernel) (by decide +kernel)
set_option maxRecDepth 20000 in
theorem gX6_closeError_X6_isOpen : GoodIn wsX6_closeError (wsV RX6 87 RX6 yX6_isOpen wsX6_isOpen) := goodIn_app (goodIn_of _ (by decide +kernel)) ggX6_closeError_X6_isOpen
theorem dX6_closeError_0 : decode cX6_closeError 0 = .ok (.aload_n 0, 1) := by decide +kernel
theorem dX6_closeError_1 : decode cX6_closeError 1 = .ok (.iload_n 1, 1) := by decide +kernel
theorem dX6_closeError_2 : decode cX6_closeError 2 = .ok (.invokevirtual 83, 3) := by decide +kernel
theorem dX6_closeError_5 : decode cX6_closeError 5 = .ok (.ifCond .ne 7, 3) := by decide +kernel
theorem dX6_closeError_8 : decode cX6_closeError 8 = .ok (.iconst (-1), 1) := by decide +kernel
theorem dX6_closeError_9 : decode cX6_closeError 9 = .ok (.goto 17, 3) := by decide +kernel
theorem dX6_closeError_12 : decode cX6_closeError 12 = .ok (.aload_n 0, 1) := by decide +kernel
theorem dX6_closeError_13 : decode cX6_closeError 13 = .ok (.iload_n 1, 1) := by decide +kernel
theorem dX6_closeError_14 : decode cX6_closeError 14 = .ok (.invokevirtual 87, 3) := by decide +kernel
theorem dX6_closeError_17 : decode cX6_closeError 17 = .ok (.ifCond .ne 8, 3) := by decide +kernel
theorem dX6_closeError_20 : decode cX6_closeError 20 = .ok (.bipush (-4), 2) := by decide +kernel
theorem dX6_closeError_22 : decode cX6_closeError 22 = .ok (.goto 4, 3) := by decide +kernel
theorem dX6_closeError_25 : decode cX6_closeError 25 = .ok (.iconst 0, 1) := by decide +kernel
theorem dX6_closeError_26 : decode cX6_closeError 26 = .ok (.ireturn, 1) := by decide +kernel
set_option maxRecDepth 20000 in
theorem ggX6_appendError_X6_isThere : GoodIn wsX6_appendError wsX6_isThere := goodIn_r _ [5, 6, 7, 8, 4, 9, 10, 11, 12, 40, 41, 42, 43, 44, 45, 46, 47, 48, 49] (by decide +kernel) (by decide +kernel)
set_option maxRecDepth 20000 in
theorem gX6_appendError_X6_isThere : GoodIn wsX6_appendError (wsV RX6 83 RX6 yX6_isThere wsX6_isThere) := goodIn_app (goodIn_of _ (by decide +kernel)) ggX6_appendError_X6_isThere
set_option maxRecDepth 20000 in
theorem ggX6_appendError_X6_in : GoodIn wsX6_appendError wsX6_in := goodIn_r _ [9] (by decide +kernel) (by decide +kernel)
set_option maxRecDepth 20000 in
theorem gX6_appendError_X6_in : GoodIn wsX6_appendError (va_wsS RX6 24 yX6_in wsX6_in) := goodIn_app (goodIn_of _ (by decide +kernel)) ggX6_appendError_X6_in
set_option maxRecDepth 20000 in
theorem ggX6_appendError_X6_isOpen : GoodIn wsX6_appendError wsX6_isOpen := goodIn_r _ [16, 6, 10, 11, 4, 12, 40, 41, 42, 43, 44, 45, 46, 47, 48, 49] (by decide +kernel) (by decide +kernel)
set_option maxRecDepth 20000 in
theorem gX6_appendError_X6_isOpen : GoodIn wsX6_appendError (wsV RX6 87 RX6 yX6_isOpen wsX6_isOpen) := goodIn_app (goodIn_of _ (by decide +kernel)) ggX6_appendError_X6_isOpen
set_option maxRecDepth 20000 in
theorem ggX6_appendError_X6_canAppend : GoodIn wsX6_appendError wsX6_canAppend := goodIn_r _ [20, 21, 22, 23, 4, 24, 25, 26, 27, 28, 6, 10, 11, 12, 29, 30, 31, 32, 33, 34, 35, 36, 37, 38, 39, 40, 41, 42, 43, 44, 45, 46, 47, 48, 49] (by decide +kernel) (by decide +kernel)
set_option maxRecDepth 20000 in
theorem gX6_appendError_X6_canAppend : GoodIn wsX6_appendError (wsV RX6 90 RX6 yX6_canAppend wsX6_canAppend) := goodIn_app (goodIn_of _ (by decide +kernel)) ggX6_appendError_X6_canAppend
theorem dX6_appendError_0 : decode cX6_appendError 0 = .ok (.aload_n 0, 1) := by decide +kernel
theorem dX6_appendError_1 : decode cX6_appendError 1 = .ok (.iload_n 1, 1) := by decide +kernel
theorem dX6_appendError_2 : decode cX6_appendError 2 = .ok (.invokevirtual 83, 3) := by decide +kernel
theorem dX6_appendError_5 : decode cX6_appendError 5 = .ok (.ifCond .ne 5, 3) := by decide +kernel
theorem dX6_appendError_8 : decode cX6_appendError 8 = .ok (.iconst (-1), 1) := by decide +kernel
theorem dX6_appendError_9 : decode cX6_appendError 9 = .ok (.ireturn, 1) := by decide +kernel
theorem dX6_appendError_10 : decode cX6_appendError 10 = .ok (.iload_n 2, 1) := by decide +kernel
theorem dX6_appendError_11 : decode cX6_appendError 11 = .ok (.iconst 1, 1) := by decide +kernel
theorem dX6_appendError_12 : decode cX6_appendError 12 = .ok (.bipush 64, 2) := by decide +kernel
theorem dX6_appendError_14 : decode cX6_appendError 14 = .ok (.invokestatic 24, 3) := by decide +kernel
theorem dX6_appendError_17 : decode cX6_appendError 17 = .ok (.ifCond .eq 13, 3) := by decide +kernel
theorem dX6_appendError_20 : decode cX6_appendError 20 = .ok (.iload_n 3, 1) := by decide +kernel
theorem dX6_appendError_21 : decode cX6_appendError 21 = .ok (.iconst 0, 1) := by decide +kernel
theorem dX6_appendError_22 : decode cX6_appendError 22 = .ok (.bipush 99, 2) := by decide +kernel
theorem dX6_appendError_24 : decode cX6_appendError 24 = .ok (.invokestatic 24, 3) := by decide +kernel
theorem dX6_appendError_27 : decode cX6_appendError 27 = .ok (.ifCond .ne 6, 3) := by decide +kernel
theorem dX6_appendError_30 : decode cX6_appendError 30 = .ok (.bipush (-2), 2) := by decide +kernel
theorem dX6_appendError_32 : decode cX6_appendError 32 = .ok (.ireturn, 1) := by decide +kernel
theorem dX6_appendError_33 : decode cX6_appendError 33 = .ok (.aload_n 0, 1) := by decide +kernel
theorem dX6_appendError_34 : decode cX6_appendError 34 = .ok (.iload_n 1, 1) := by decide +kernel
theorem dX6_appendError_35 : decode cX6_appendError 35 = .ok (.invokevirtual 87, 3) := by decide +kernel
theorem dX6_appendError_38 : decode cX6_appendError 38 = .ok (.ifCond .eq 16, 3) := by decide +kernel
theorem dX6_appendError_41 : decode cX6_appendError 41 = .ok (.aload_n 0, 1) := by decide +kernel
theorem dX6_appendError_42 : decode cX6_appendError 42 = .ok (.iload_n 1, 1) := by decide +kernel
theorem dX6_appendError_43 : decode cX6_appendError 43 = .ok (.iload_n 2, 1) := by decide +kernel
theorem dX6_appendError_44 : decode cX6_appendError 44 = .ok (.invokevirtual 90, 3) := by decide +kernel
theorem dX6_appendError_47 : decode cX6_appendError 47 = .ok (.ifCond .eq 7, 3) := by decide +kernel
theorem dX6_appendError_50 : decode cX6_appendError 50 = .ok (.iconst 0, 1) := by decide +kernel
theorem dX6_appendError_51 : decode cX6_appendError 51 = .ok (.goto 5, 3) := by decide +kernel
theorem dX6_appendError_54 : decode cX6_appendError 54 = .ok (.bipush (-4), 2) := by decide +kernel
theorem dX6_appendError_56 : decode cX6_appendError 56 = .ok (.ireturn, 1) := by decide +kernel
set_option maxRecDepth 20000 in
theorem ggX6_cutError_X6_isThere : GoodIn wsX6_cutError wsX6_isThere := goodIn_r _ [6, 1, 7, 8, 5, 9, 10, 11, 12, 17, 18, 19, 20, 21, 22, 23, 24, 25, 26] (by decide +kernel) (by decide +kernel)
set_option maxRecDepth 20000 in
theorem gX6_cutError_X6_isThere : GoodIn wsX6_cutError (wsV RX6 83 RX6 yX6_isThere wsX6_isThere) := goodIn_app (goodIn_of _ (by decide +kernel)) ggX6_cutError_X6_isThere
set_option maxRecDepth 20000 in
theorem ggX6_cutError_X6_in : GoodIn wsX6_cutError wsX6_in := goodIn_r _ [9] (by decide +kernel) (by decide +kernel)
set_option maxRecDepth 20000 in
theorem gX6_cutError_X6_in : GoodIn wsX6_cutError (va_wsS RX6 24 yX6_in wsX6_in) := goodIn_app (goodIn_of _ (by decide +kernel)) ggX6_cutError_X6_in
set_option maxRecDepth 20000 in
theorem ggX6_cutError_X6_isOpen : GoodIn wsX6_cutError wsX6_isOpen := goodIn_r _ [16, 1, 10, 11, 5, 12, 17, 18, 19, 20, 21, 22, 23, 24, 25, 26] (by decide +kernel) (by decide +kernel)
set_option maxRecDepth 20000 in
theorem gX6_cutError_X6_isOpen : GoodIn wsX6_cutError (wsV RX6 87 RX6 yX6_isOpen wsX6_isOpen) := goodIn_app (goodIn_of _ (by decide +kernel)) ggX6_cutError_X6_isOpen
set_option maxRecDepth 20000 in
theorem ggX6_cutError_X6_at : GoodIn wsX6_cutError wsX6_at := goodIn_r _ [12] (by decide +kernel) (by decide +kernel)
set_option maxRecDepth 20000 in
theorem gX6_cutError_X6_at : GoodIn wsX6_cutError (va_wsS RX6 28 yX6_at wsX6_at) := goodIn_app (goodIn_of _ (by decide +kernel)) ggX6_cutError_X6_at
theorem dX6_cutError_0 : decode cX6_cutError 0 = .ok (.aload_n 0, 1) := by decide +kernel
theorem dX6_cutError_1 : decode cX6_cutError 1 = .ok (.iload_n 1, 1) := by decide +kernel
theorem dX6_cutError_2 : decode cX6_cutError 2 = .ok (.invokevirtual 83, 3) := by decide +kernel
theorem dX6_cutError_5 : decode cX6_cutError 5 = .ok (.ifCond .ne 5, 3) := by decide +kernel
theorem dX6_cutError_8 : decode cX6_cutError 8 = .ok (.iconst (-1), 1) := by decide +kernel
theorem dX6_cutError_9 : decode cX6_cutError 9 = .ok (.ireturn, 1) := by decide +kernel
theorem dX6_cutError_10 : decode cX6_cutError 10 = .ok (.iload_n 2, 1) := by decide +kernel
theorem dX6_cutError_11 : decode cX6_cutError 11 = .ok (.iconst 0, 1) := by decide +kernel
theorem dX6_cutError_12 : decode cX6_cutError 12 = .ok (.bipush 64, 2) := by decide +kernel
theorem dX6_cutError_14 : decode cX6_cutError 14 = .ok (.invokestatic 24, 3) := by decide +kernel
theorem dX6_cutError_17 : decode cX6_cutError 17 = .ok (.ifCond .ne 6, 3) := by decide +kernel
theorem dX6_cutError_20 : decode cX6_cutError 20 = .ok (.bipush (-2), 2) := by decide +kernel
theorem dX6_cutError_22 : decode cX6_cutError 22 = .ok (.ireturn, 1) := by decide +kernel
theorem dX6_cutError_23 : decode cX6_cutError 23 = .ok (.aload_n 0, 1) := by decide +kernel
theorem dX6_cutError_24 : decode cX6_cutError 24 = .ok (.iload_n 1, 1) := by decide +kernel
theorem dX6_cutError_25 : decode cX6_cutError 25 = .ok (.invokevirtual 87, 3) := by decide +kernel
theorem dX6_cutError_28 : decode cX6_cutError 28 = .ok (.ifCond .eq 23, 3) := by decide +kernel
theorem dX6_cutError_31 : decode cX6_cutError 31 = .ok (.iload_n 2, 1) := by decide +kernel
theorem dX6_cutError_32 : decode cX6_cutError 32 = .ok (.aload_n 0, 1) := by decide +kernel
theorem dX6_cutError_33 : decode cX6_cutError 33 = .ok (.getfield 7, 3) := by decide +kernel
theorem dX6_cutError_36 : decode cX6_cutError 36 = .ok (.iconst 0, 1) := by decide +kernel
theorem dX6_cutError_37 : decode cX6_cutError 37 = .ok (.iload_n 1, 1) := by decide +kernel
theorem dX6_cutError_38 : decode cX6_cutError 38 = .ok (.invokestatic 28, 3) := by decide +kernel
theorem dX6_cutError_41 : decode cX6_cutError 41 = .ok (.iconst 2, 1) := by decide +kernel
theorem dX6_cutError_42 : decode cX6_cutError 42 = .ok (.iadd, 1) := by decide +kernel
theorem dX6_cutError_43 : decode cX6_cutError 43 = .ok (.iaload, 1) := by decide +kernel
theorem dX6_cutError_44 : decode cX6_cutError 44 = .ok (.if_icmp .gt 7, 3) := by decide +kernel
theorem dX6_cutError_47 : decode cX6_cutError 47 = .ok (.iconst 0, 1) := by decide +kernel
theorem dX6_cutError_48 : decode cX6_cutError 48 = .ok (.goto 5, 3) := by decide +kernel
theorem dX6_cutError_51 : decode cX6_cutError 51 = .ok (.bipush (-4), 2) := by decide +kernel
theorem dX6_cutError_53 : decode cX6_cutError 53 = .ok (.ireturn, 1) := by decide +kernel
set_option maxRecDepth 20000 in
theorem ggX6_many_X6_at : GoodIn wsX6_many wsX6_at := goodIn_r _ [5] (by decide +kernel) (by decide +kernel)
set_option maxRecDepth 20000 in
theorem gX6_many_X6_at : GoodIn wsX6_many (va_wsS RX6 28 yX6_at wsX6_at) := goodIn_app (goodIn_of _ (by decide +kernel)) ggX6_many_X6_at
theorem dX6_many_0 : decode cX6_many 0 = .ok (.iconst 0, 1) := by decide +kernel
theorem dX6_many_1 : decode cX6_many 1 = .ok (.istore_n 1, 1) := by decide +kernel
theorem dX6_many_2 : decode cX6_many 2 = .ok (.iconst 0, 1) := by decide +kernel
theorem dX6_many_3 : decode cX6_many 3 = .ok (.istore_n 2, 1) := by decide +kernel
theorem dX6_many_4 : decode cX6_many 4 = .ok (.iload_n 2, 1) := by decide +kernel
theorem dX6_many_5 : decode cX6_many 5 = .ok (.bipush 8, 2) := by decide +kernel
theorem dX6_many_7 : decode cX6_many 7 = .ok (.if_icmp .ge 22, 3) := by decide +kernel
theorem dX6_many_10 : decode cX6_many 10 = .ok (.iload_n 1, 1) := by decide +kernel
theorem dX6_many_11 : decode cX6_many 11 = .ok (.aload_n 0, 1) := by decide +kernel
theorem dX6_many_12 : decode cX6_many 12 = .ok (.getfield 7, 3) := by decide +kernel
theorem dX6_many_15 : decode cX6_many 15 = .ok (.iconst 0, 1) := by decide +kernel
theorem dX6_many_16 : decode cX6_many 16 = .ok (.iload_n 2, 1) := by decide +kernel
theorem dX6_many_17 : decode cX6_many 17 = .ok (.invokestatic 28, 3) := by decide +kernel
theorem dX6_many_20 : decode cX6_many 20 = .ok (.iaload, 1) := by decide +kernel
theorem dX6_many_21 : decode cX6_many 21 = .ok (.iadd, 1) := by decide +kernel
theorem dX6_many_22 : decode cX6_many 22 = .ok (.istore_n 1, 1) := by decide +kernel
theorem dX6_many_23 : decode cX6_many 23 = .ok (.iinc 2 1, 3) := by decide +kernel
theorem dX6_many_26 : decode cX6_many 26 = .ok (.goto (-22), 3) := by decide +kernel
theorem dX6_many_29 : decode cX6_many 29 = .ok (.iload_n 1, 1) := by decide +kernel
theorem dX6_many_30 : decode cX6_many 30 = .ok (.ireturn, 1) := by decide +kernel
set_option maxRecDepth 20000 in
theorem ggX6_createError_X6_many : GoodIn wsX6_createError wsX6_many := goodIn_r _ [5, 6, 7, 8, 4, 9, 10, 11, 12, 13, 14, 15, 16, 17, 18, 19] (by decide +kernel) (by decide +kernel)
set_option maxRecDepth 20000 in
theorem gX6_createError_X6_many : GoodIn wsX6_createError (wsV RX6 93 RX6 yX6_many wsX6_many) := goodIn_app (goodIn_of _ (by decide +kernel)) ggX6_createError_X6_many
theorem dX6_createError_0 : decode cX6_createError 0 = .ok (.aload_n 0, 1) := by decide +kernel
theorem dX6_createError_1 : decode cX6_createError 1 = .ok (.invokevirtual 93, 3) := by decide +kernel
theorem dX6_createError_4 : decode cX6_createError 4 = .ok (.bipush 8, 2) := by decide +kernel
theorem dX6_createError_6 : decode cX6_createError 6 = .ok (.if_icmp .ne 8, 3) := by decide +kernel
theorem dX6_createError_9 : decode cX6_createError 9 = .ok (.bipush (-3), 2) := by decide +kernel
theorem dX6_createError_11 : decode cX6_createError 11 = .ok (.goto 4, 3) := by decide +kernel
theorem dX6_createError_14 : decode cX6_createError 14 = .ok (.iconst 0, 1) := by decide +kernel
theorem dX6_createError_15 : decode cX6_createError 15 = .ok (.ireturn, 1) := by decide +kernel
set_option maxRecDepth 20000 in
theorem ggX6_opened_X6_isThere : GoodIn wsX6_opened wsX6_isThere := goodIn_r _ [5, 6, 7, 8, 4, 9, 10, 11, 12, 20, 21, 22, 23, 24, 25, 26, 27, 28, 29] (by decide +kernel) (by decide +kernel)
set_option maxRecDepth 20000 in
theorem gX6_opened_X6_isThere : GoodIn wsX6_opened (wsV RX6 83 RX6 yX6_isThere wsX6_isThere) := goodIn_app (goodIn_of _ (by decide +kernel)) ggX6_opened_X6_isThere
set_option maxRecDepth 20000 in
theorem ggX6_opened_X6_isOpen : GoodIn wsX6_opened wsX6_isOpen := goodIn_r _ [16, 6, 10, 11, 4, 12, 20, 21, 22, 23, 24, 25, 26, 27, 28, 29] (by decide +kernel) (by decide +kernel)
set_option maxRecDepth 20000 in
theorem gX6_opened_X6_isOpen : GoodIn wsX6_opened (wsV RX6 87 RX6 yX6_isOpen wsX6_isOpen) := goodIn_app (goodIn_of _ (by decide +kernel)) ggX6_opened_X6_isOpen
set_option maxRecDepth 20000 in
theorem ggX6_opened_X6_flag : GoodIn wsX6_opened wsX6_flag := goodIn_r _ [19] (by decide +kernel) (by decide +kernel)
set_option maxRecDepth 20000 in
theorem gX6_opened_X6_flag : GoodIn wsX6_opened (va_wsS RX6 36 yX6_flag wsX6_flag) := goodIn_app (goodIn_of _ (by decide +kernel)) ggX6_opened_X6_flag
theorem dX6_opened_0 : decode cX6_opened 0 = .ok (.iconst 0, 1) := by decide +kernel
theorem dX6_opened_1 : decode cX6_opened 1 = .ok (.istore_n 1, 1) := by decide +kernel
theorem dX6_opened_2 : decode cX6_opened 2 = .ok (.iconst 0, 1) := by decide +kernel
theorem dX6_opened_3 : decode cX6_opened 3 = .ok (.istore_n 2, 1) := by decide +kernel
theorem dX6_opened_4 : decode cX6_opened 4 = .ok (.iload_n 2, 1) := by decide +kernel
theorem dX6_opened_5 : decode cX6_opened 5 = .ok (.bipush 8, 2) := by decide +kernel
theorem dX6_opened_7 : decode cX6_opened 7 = .ok (.if_icmp .ge 36, 3) := by decide +kernel
theorem dX6_opened_10 : decode cX6_opened 10 = .ok (.iload_n 1, 1) := by decide +kernel
theorem dX6_opened_11 : decode cX6_opened 11 = .ok (.aload_n 0, 1) := by decide +kernel
theorem dX6_opened_12 : decode cX6_opened 12 = .ok (.iload_n 2, 1) := by decide +kernel
theorem dX6_opened_13 : decode cX6_opened 13 = .ok (.invokevirtual 83, 3) := by decide +kernel
theorem dX6_opened_16 : decode cX6_opened 16 = .ok (.ifCond .eq 15, 3) := by decide +kernel
theorem dX6_opened_19 : decode cX6_opened 19 = .ok (.aload_n 0, 1) := by decide +kernel
theorem dX6_opened_20 : decode cX6_opened 20 = .ok (.iload_n 2, 1) := by decide +kernel
theorem dX6_opened_21 : decode cX6_opened 21 = .ok (.invokevirtual 87, 3) := by decide +kernel
theorem dX6_opened_24 : decode cX6_opened 24 = .ok (.ifCond .eq 7, 3) := by decide +kernel
theorem dX6_opened_27 : decode cX6_opened 27 = .ok (.iconst 1, 1) := by decide +kernel
theorem dX6_opened_28 : decode cX6_opened 28 = .ok (.goto 4, 3) := by decide +kernel
theorem dX6_opened_31 : decode cX6_opened 31 = .ok (.iconst 0, 1) := by decide +kernel
theorem dX6_opened_32 : decode cX6_opened 32 = .ok (.invokestatic 36, 3) := by decide +kernel
theorem dX6_opened_35 : decode cX6_opened 35 = .ok (.iadd, 1) := by decide +kernel
theorem dX6_opened_36 : decode cX6_opened 36 = .ok (.istore_n 1, 1) := by decide +kernel
theorem dX6_opened_37 : decode cX6_opened 37 = .ok (.iinc 2 1, 3) := by decide +kernel
theorem dX6_opened_40 : decode cX6_opened 40 = .ok (.goto (-36), 3) := by decide +kernel
theorem dX6_opened_43 : decode cX6_opened 43 = .ok (.iload_n 1, 1) := by decide +kernel
theorem dX6_opened_44 : decode cX6_opened 44 = .ok (.ireturn, 1) := by decide +kernel
set_option maxRecDepth 20000 in
theorem ggX6_creates_X6_isThere : GoodIn wsX6_creates wsX6_isThere := goodIn_r _ [6, 1, 7, 8, 5, 9, 10, 11, 12, 13, 14, 15, 16, 17, 18, 19, 20, 21, 22] (by decide +kernel) (by decide +kernel)
set_option maxRecDepth 20000 in
theorem gX6_creates_X6_isThere : GoodIn wsX6_creates (wsV RX6 83 RX6 yX6_isThere wsX6_isThere) := goodIn_app (goodIn_of _ (by decide +kernel)) ggX6_creates_X6_isThere
set_option maxRecDepth 20000 in
theorem ggX6_creates_X6_at : GoodIn wsX6_creates wsX6_at := goodIn_r _ [12] (by decide +kernel) (by decide +kernel)
set_option maxRecDepth 20000 in
theorem gX6_creates_X6_at : GoodIn wsX6_creates (va_wsS RX6 28 yX6_at wsX6_at) := goodIn_app (goodIn_of _ (by decide +kernel)) ggX6_creates_X6_at
theorem dX6_creates_0 : decode cX6_creates 0 = .ok (.iconst 0, 1) := by decide +kernel
theorem dX6_creates_1 : decode cX6_creates 1 = .ok (.istore_n 1, 1) := by decide +kernel
theorem dX6_creates_2 : decode cX6_creates 2 = .ok (.aload_n 0, 1) := by decide +kernel
theorem dX6_creates_3 : decode cX6_creates 3 = .ok (.iload_n 1, 1) := by decide +kernel
theorem dX6_creates_4 : decode cX6_creates 4 = .ok (.invokevirtual 83, 3) := by decide +kernel
theorem dX6_creates_7 : decode cX6_creates 7 = .ok (.ifCond .eq 9, 3) := by decide +kernel
theorem dX6_creates_10 : decode cX6_creates 10 = .ok (.iinc 1 1, 3) := by decide +kernel
theorem dX6_creates_13 : decode cX6_creates 13 = .ok (.goto (-11), 3) := by decide +kernel
theorem dX6_creates_16 : decode cX6_creates 16 = .ok (.iconst 0, 1) := by decide +kernel
theorem dX6_creates_17 : decode cX6_creates 17 = .ok (.istore_n 2, 1) := by decide +kernel
theorem dX6_creates_18 : decode cX6_creates 18 = .ok (.iload_n 2, 1) := by decide +kernel
theorem dX6_creates_19 : decode cX6_creates 19 = .ok (.bipush 6, 2) := by decide +kernel
theorem dX6_creates_21 : decode cX6_creates 21 = .ok (.if_icmp .ge 35, 3) := by decide +kernel
theorem dX6_creates_24 : decode cX6_creates 24 = .ok (.aload_n 0, 1) := by decide +kernel
theorem dX6_creates_25 : decode cX6_creates 25 = .ok (.getfield 7, 3) := by decide +kernel
theorem dX6_creates_28 : decode cX6_creates 28 = .ok (.iconst 0, 1) := by decide +kernel
theorem dX6_creates_29 : decode cX6_creates 29 = .ok (.iload_n 1, 1) := by decide +kernel
theorem dX6_creates_30 : decode cX6_creates 30 = .ok (.invokestatic 28, 3) := by decide +kernel
theorem dX6_creates_33 : decode cX6_creates 33 = .ok (.iload_n 2, 1) := by decide +kernel
theorem dX6_creates_34 : decode cX6_creates 34 = .ok (.iadd, 1) := by decide +kernel
theorem dX6_creates_35 : decode cX6_creates 35 = .ok (.iload_n 2, 1) := by decide +kernel
theorem dX6_creates_36 : decode cX6_creates 36 = .ok (.ifCond .eq 8, 3) := by decide +kernel
theorem dX6_creates_39 : decode cX6_creates 39 = .ok (.iload_n 2, 1) := by decide +kernel
theorem dX6_creates_40 : decode cX6_creates 40 = .ok (.iconst 5, 1) := by decide +kernel
theorem dX6_creates_41 : decode cX6_creates 41 = .ok (.if_icmp .ne 7, 3) := by decide +kernel
theorem dX6_creates_44 : decode cX6_creates 44 = .ok (.iconst 1, 1) := by decide +kernel
theorem dX6_creates_45 : decode cX6_creates 45 = .ok (.goto 4, 3) := by decide +kernel
theorem dX6_creates_48 : decode cX6_creates 48 = .ok (.iconst 0, 1) := by decide +kernel
theorem dX6_creates_49 : decode cX6_creates 49 = .ok (.iastore, 1) := by decide +kernel
theorem dX6_creates_50 : decode cX6_creates 50 = .ok (.iinc 2 1, 3) := by decide +kernel
theorem dX6_creates_53 : decode cX6_creates 53 = .ok (.goto (-35), 3) := by decide +kernel
theorem dX6_creates_56 : decode cX6_creates 56 = .ok (.iload_n 1, 1) := by decide +kernel
theorem dX6_creates_57 : decode cX6_creates 57 = .ok (.ireturn, 1) := by decide +kernel
set_option maxRecDepth 20000 in
theorem ggX6_opens_X6_at : GoodIn wsX6_opens wsX6_at := goodIn_r _ [5] (by decide +kernel) (by decide +kernel)
set_option maxRecDepth 20000 in
theorem gX6_opens_X6_at : GoodIn wsX6_opens (va_wsS RX6 28 yX6_at wsX6_at) := goodIn_app (goodIn_of _ (by decide +kernel)) ggX6_opens_X6_at
set_option maxRecDepth 20000 in
theorem ggX6_opens_X6_opened : GoodIn wsX6_opens wsX6_opened := goodIn_r _ [9, 10, 11, 12, 4, 13, 1, 14, 15, 16, 2, 3, 5, 17, 18, 19, 20, 21, 22, 23, 24, 25, 26, 27, 28, 29, 30, 31, 32, 33] (by decide +kernel) (by decide +kernel)
set_option maxRecDepth 20000 in
theorem gX6_opens_X6_opened : GoodIn wsX6_opens (wsV RX6 97 RX6 yX6_opened wsX6_opened) := goodIn_app (goodIn_of _ (by decide +kernel)) ggX6_opens_X6_opened
theorem dX6_opens_0 : decode cX6_opens 0 = .ok (.aload_n 0, 1) := by decide +kernel
theorem dX6_opens_1 : decode cX6_opens 1 = .ok (.getfield 7, 3) := by decide +kernel
theorem dX6_opens_4 : decode cX6_opens 4 = .ok (.iconst 0, 1) := by decide +kernel
theorem dX6_opens_5 : decode cX6_opens 5 = .ok (.iload_n 1, 1) := by decide +kernel
theorem dX6_opens_6 : decode cX6_opens 6 = .ok (.invokestatic 28, 3) := by decide +kernel
theorem dX6_opens_9 : decode cX6_opens 9 = .ok (.iconst 4, 1) := by decide +kernel
theorem dX6_opens_10 : decode cX6_opens 10 = .ok (.iadd, 1) := by decide +kernel
theorem dX6_opens_11 : decode cX6_opens 11 = .ok (.iconst 1, 1) := by decide +kernel
theorem dX6_opens_12 : decode cX6_opens 12 = .ok (.iastore, 1) := by decide +kernel
theorem dX6_opens_13 : decode cX6_opens 13 = .ok (.aload_n 0, 1) := by decide +kernel
theorem dX6_opens_14 : decode cX6_opens 14 = .ok (.invokevirtual 97, 3) := by decide +kernel
theorem dX6_opens_17 : decode cX6_opens 17 = .ok (.ireturn, 1) := by decide +kernel
set_option maxRecDepth 20000 in
theorem ggX6_closes_X6_givesBack : GoodIn wsX6_closes wsX6_givesBack := goodIn_r _ [6, 1, 7, 8, 5, 9, 10, 11, 12, 13, 14, 15, 16, 17, 18, 19, 20, 21, 22, 23] (by decide +kernel) (by decide +kernel)
set_option maxRecDepth 20000 in
theorem gX6_closes_X6_givesBack : GoodIn wsX6_closes (wsV RX6 63 RX6 yX6_givesBack wsX6_givesBack) := goodIn_app (goodIn_of _ (by decide +kernel)) ggX6_closes_X6_givesBack
set_option maxRecDepth 20000 in
theorem ggX6_closes_X6_at : GoodIn wsX6_closes wsX6_at := goodIn_r _ [9] (by decide +kernel) (by decide +kernel)
set_option maxRecDepth 20000 in
theorem gX6_closes_X6_at : GoodIn wsX6_closes (va_wsS RX6 28 yX6_at wsX6_at) := goodIn_app (goodIn_of _ (by decide +kernel)) ggX6_closes_X6_at
theorem dX6_closes_0 : decode cX6_closes 0 = .ok (.aload_n 0, 1) := by decide +kernel
theorem dX6_closes_1 : decode cX6_closes 1 = .ok (.iconst 0, 1) := by decide +kernel
theorem dX6_closes_2 : decode cX6_closes 2 = .ok (.iload_n 1, 1) := by decide +kernel
theorem dX6_closes_3 : decode cX6_closes 3 = .ok (.invokevirtual 63, 3) := by decide +kernel
theorem dX6_closes_6 : decode cX6_closes 6 = .ok (.istore_n 2, 1) := by decide +kernel
theorem dX6_closes_7 : decode cX6_closes 7 = .ok (.aload_n 0, 1) := by decide +kernel
theorem dX6_closes_8 : decode cX6_closes 8 = .ok (.getfield 7, 3) := by decide +kernel
theorem dX6_closes_11 : decode cX6_closes 11 = .ok (.iconst 0, 1) := by decide +kernel
theorem dX6_closes_12 : decode cX6_closes 12 = .ok (.iload_n 1, 1) := by decide +kernel
theorem dX6_closes_13 : decode cX6_closes 13 = .ok (.invokestatic 28, 3) := by decide +kernel
theorem dX6_closes_16 : decode cX6_closes 16 = .ok (.iconst 3, 1) := by decide +kernel
theorem dX6_closes_17 : decode cX6_closes 17 = .ok (.iadd, 1) := by decide +kernel
theorem dX6_closes_18 : decode cX6_closes 18 = .ok (.aload_n 0, 1) := by decide +kernel
theorem dX6_closes_19 : decode cX6_closes 19 = .ok (.getfield 7, 3) := by decide +kernel
theorem dX6_closes_22 : decode cX6_closes 22 = .ok (.iconst 0, 1) := by decide +kernel
theorem dX6_closes_23 : decode cX6_closes 23 = .ok (.iload_n 1, 1) := by decide +kernel
theorem dX6_closes_24 : decode cX6_closes 24 = .ok (.invokestatic 28, 3) := by decide +kernel
theorem dX6_closes_27 : decode cX6_closes 27 = .ok (.iconst 2, 1) := by decide +kernel
theorem dX6_closes_28 : decode cX6_closes 28 = .ok (.iadd, 1) := by decide +kernel
theorem dX6_closes_29 : decode cX6_closes 29 = .ok (.iaload, 1) := by decide +kernel
theorem dX6_closes_30 : decode cX6_closes 30 = .ok (.iastore, 1) := by decide +kernel
theorem dX6_closes_31 : decode cX6_closes 31 = .ok (.aload_n 0, 1) := by decide +kernel
theorem dX6_closes_32 : decode cX6_closes 32 = .ok (.getfield 7, 3) := by decide +kernel
theorem dX6_closes_35 : decode cX6_closes 35 = .ok (.iconst 0, 1) := by decide +kernel
theorem dX6_closes_36 : decode cX6_closes 36 = .ok (.iload_n 1, 1) := by decide +kernel
theorem dX6_closes_37 : decode cX6_closes 37 = .ok (.invokestatic 28, 3) := by decide +kernel
theorem dX6_closes_40 : decode cX6_closes 40 = .ok (.iconst 4, 1) := by decide +kernel
theorem dX6_closes_41 : decode cX6_closes 41 = .ok (.iadd, 1) := by decide +kernel
theorem dX6_closes_42 : decode cX6_closes 42 = .ok (.iconst 0, 1) := by decide +kernel
theorem dX6_closes_43 : decode cX6_closes 43 = .ok (.iastore, 1) := by decide +kernel
theorem dX6_closes_44 : decode cX6_closes 44 = .ok (.iload_n 2, 1) := by decide +kernel
theorem dX6_closes_45 : decode cX6_closes 45 = .ok (.ireturn, 1) := by decide +kernel
set_option maxRecDepth 20000 in
theorem ggX6_removes_X6_frees : GoodIn wsX6_removes wsX6_frees := goodIn_r _ [6, 1, 7, 8, 5, 9, 10, 11, 12, 13, 14, 15, 16, 17, 18, 19] (by decide +kernel) (by decide +kernel)
set_option maxRecDepth 20000 in
theorem gX6_removes_X6_frees : GoodIn wsX6_removes (wsV RX6 44 RX6 yX6_frees wsX6_frees) := goodIn_app (goodIn_of _ (by decide +kernel)) ggX6_removes_X6_frees
set_option maxRecDepth 20000 in
theorem ggX6_removes_X6_at : GoodIn wsX6_removes wsX6_at := goodIn_r _ [9] (by decide +kernel) (by decide +kernel)
set_option maxRecDepth 20000 in
theorem gX6_removes_X6_at : GoodIn wsX6_removes (va_wsS RX6 28 yX6_at wsX6_at) := goodIn_app (goodIn_of _ (by decide +kernel)) ggX6_removes_X6_at
theorem dX6_removes_0 : decode cX6_removes 0 = .ok (.aload_n 0, 1) := by decide +kernel
theorem dX6_removes_1 : decode cX6_removes 1 = .ok (.iconst 0, 1) := by decide +kernel
theorem dX6_removes_2 : decode cX6_removes 2 = .ok (.iload_n 1, 1) := by decide +kernel
theorem dX6_removes_3 : decode cX6_removes 3 = .ok (.iconst 0, 1) := by decide +kernel
theorem dX6_removes_4 : decode cX6_removes 4 = .ok (.invokevirtual 44, 3) := by decide +kernel
theorem dX6_removes_7 : decode cX6_removes 7 = .ok (.istore_n 2, 1) := by decide +kernel
theorem dX6_removes_8 : decode cX6_removes 8 = .ok (.aload_n 0, 1) := by decide +kernel
theorem dX6_removes_9 : decode cX6_removes 9 = .ok (.getfield 7, 3) := by decide +kernel
theorem dX6_removes_12 : decode cX6_removes 12 = .ok (.iconst 0, 1) := by decide +kernel
theorem dX6_removes_13 : decode cX6_removes 13 = .ok (.iload_n 1, 1) := by decide +kernel
theorem dX6_removes_14 : decode cX6_removes 14 = .ok (.invokestatic 28, 3) := by decide +kernel
theorem dX6_removes_17 : decode cX6_removes 17 = .ok (.iconst 0, 1) := by decide +kernel
theorem dX6_removes_18 : decode cX6_removes 18 = .ok (.iastore, 1) := by decide +kernel
theorem dX6_removes_19 : decode cX6_removes 19 = .ok (.iload_n 2, 1) := by decide +kernel
theorem dX6_removes_20 : decode cX6_removes 20 = .ok (.ireturn, 1) := by decide +kernel
set_option maxRecDepth 20000 in
theorem ggX6_syncs_X6_at : GoodIn wsX6_syncs wsX6_at := goodIn_r _ [5] (by decide +kernel) (by decide +kernel)
set_option maxRecDepth 20000 in
theorem gX6_syncs_X6_at : GoodIn wsX6_syncs (va_wsS RX6 28 yX6_at wsX6_at) := goodIn_app (goodIn_of _ (by decide +kernel)) ggX6_syncs_X6_at
theorem dX6_syncs_0 : decode cX6_syncs 0 = .ok (.iconst 0, 1) := by decide +kernel
theorem dX6_syncs_1 : decode cX6_syncs 1 = .ok (.iload_n 1, 1) := by decide +kernel
theorem dX6_syncs_2 : decode cX6_syncs 2 = .ok (.invokestatic 28, 3) := by decide +kernel
theorem dX6_syncs_5 : decode cX6_syncs 5 = .ok (.istore_n 2, 1) := by decide +kernel
theorem dX6_syncs_6 : decode cX6_syncs 6 = .ok (.aload_n 0, 1) := by decide +kernel
theorem dX6_syncs_7 : decode cX6_syncs 7 = .ok (.getfield 7, 3) := by decide +kernel
theorem dX6_syncs_10 : decode cX6_syncs 10 = .ok (.iload_n 2, 1) := by decide +kernel
theorem dX6_syncs_11 : decode cX6_syncs 11 = .ok (.iconst 2, 1) := by decide +kernel
theorem dX6_syncs_12 : decode cX6_syncs 12 = .ok (.iadd, 1) := by decide +kernel
theorem dX6_syncs_13 : decode cX6_syncs 13 = .ok (.iaload, 1) := by decide +kernel
theorem dX6_syncs_14 : decode cX6_syncs 14 = .ok (.aload_n 0, 1) := by decide +kernel
theorem dX6_syncs_15 : decode cX6_syncs 15 = .ok (.getfield 7, 3) := by decide +kernel
theorem dX6_syncs_18 : decode cX6_syncs 18 = .ok (.iload_n 2, 1) := by decide +kernel
theorem dX6_syncs_19 : decode cX6_syncs 19 = .ok (.iconst 3, 1) := by decide +kernel
theorem dX6_syncs_20 : decode cX6_syncs 20 = .ok (.iadd, 1) := by decide +kernel
theorem dX6_syncs_21 : decode cX6_syncs 21 = .ok (.iaload, 1) := by decide +kernel
theorem dX6_syncs_22 : decode cX6_syncs 22 = .ok (.isub, 1) := by decide +kernel
theorem dX6_syncs_23 : decode cX6_syncs 23 = .ok (.istore_n 3, 1) := by decide +kernel
theorem dX6_syncs_24 : decode cX6_syncs 24 = .ok (.aload_n 0, 1) := by decide +kernel
theorem dX6_syncs_25 : decode cX6_syncs 25 = .ok (.getfield 7, 3) := by decide +kernel
theorem dX6_syncs_28 : decode cX6_syncs 28 = .ok (.iload_n 2, 1) := by decide +kernel
theorem dX6_syncs_29 : decode cX6_syncs 29 = .ok (.iconst 3, 1) := by decide +kernel
theorem dX6_syncs_30 : decode cX6_syncs 30 = .ok (.iadd, 1) := by decide +kernel
theorem dX6_syncs_31 : decode cX6_syncs 31 = .ok (.aload_n 0, 1) := by decide +kernel
theorem dX6_syncs_32 : decode cX6_syncs 32 = .ok (.getfield 7, 3) := by decide +kernel
theorem dX6_syncs_35 : decode cX6_syncs 35 = .ok (.iload_n 2, 1) := by decide +kernel
theorem dX6_syncs_36 : decode cX6_syncs 36 = .ok (.iconst 2, 1) := by decide +kernel
theorem dX6_syncs_37 : decode cX6_syncs 37 = .ok (.iadd, 1) := by decide +kernel
theorem dX6_syncs_38 : decode cX6_syncs 38 = .ok (.iaload, 1) := by decide +kernel
theorem dX6_syncs_39 : decode cX6_syncs 39 = .ok (.iastore, 1) := by decide +kernel
theorem dX6_syncs_40 : decode cX6_syncs 40 = .ok (.iload_n 3, 1) := by decide +kernel
theorem dX6_syncs_41 : decode cX6_syncs 41 = .ok (.ireturn, 1) := by decide +kernel
set_option maxRecDepth 20000 in
theorem ggX6_cuts_X6_at : GoodIn wsX6_cuts wsX6_at := goodIn_r _ [5] (by decide +kernel) (by decide +kernel)
set_option maxRecDepth 20000 in
theorem gX6_cuts_X6_at : GoodIn wsX6_cuts (va_wsS RX6 28 yX6_at wsX6_at) := goodIn_app (goodIn_of _ (by decide +kernel)) ggX6_cuts_X6_at
set_option maxRecDepth 20000 in
theorem ggX6_cuts_X6_givesBack : GoodIn wsX6_cuts wsX6_givesBack := goodIn_r _ [9, 1, 2, 3, 4, 5, 10, 11, 12, 13, 14, 15, 16, 17, 18, 19, 20, 21, 22, 23] (by decide +kernel) (by decide +kernel)
set_option maxRecDepth 20000 in
theorem gX6_cuts_X6_givesBack : GoodIn wsX6_cuts (wsV RX6 63 RX6 yX6_givesBack wsX6_givesBack) := goodIn_app (goodIn_of _ (by decide +kernel)) ggX6_cuts_X6_givesBack
set_option maxRecDepth 20000 in
theorem ggX6_cuts_X6_frees : GoodIn wsX6_cuts wsX6_frees := goodIn_r _ [13, 1, 2, 3, 4, 5, 14, 15, 16, 17, 18, 19, 20, 21, 22, 23] (by decide +kernel) (by decide +kernel)
set_option maxRecDepth 20000 in
theorem gX6_cuts_X6_frees : GoodIn wsX6_cuts (wsV RX6 44 RX6 yX6_frees wsX6_frees) := goodIn_app (goodIn_of _ (by decide +kernel)) ggX6_cuts_X6_frees
theorem dX6_cuts_0 : decode cX6_cuts 0 = .ok (.iconst 0, 1) := by decide +kernel
theorem dX6_cuts_1 : decode cX6_cuts 1 = .ok (.iload_n 1, 1) := by decide +kernel
theorem dX6_cuts_2 : decode cX6_cuts 2 = .ok (.invokestatic 28, 3) := by decide +kernel
theorem dX6_cuts_5 : decode cX6_cuts 5 = .ok (.istore_n 3, 1) := by decide +kernel
theorem dX6_cuts_6 : decode cX6_cuts 6 = .ok (.aload_n 0, 1) := by decide +kernel
theorem dX6_cuts_7 : decode cX6_cuts 7 = .ok (.iconst 0, 1) := by decide +kernel
theorem dX6_cuts_8 : decode cX6_cuts 8 = .ok (.iload_n 1, 1) := by decide +kernel
theorem dX6_cuts_9 : decode cX6_cuts 9 = .ok (.invokevirtual 63, 3) := by decide +kernel
theorem dX6_cuts_12 : decode cX6_cuts 12 = .ok (.aload_n 0, 1) := by decide +kernel
theorem dX6_cuts_13 : decode cX6_cuts 13 = .ok (.iconst 0, 1) := by decide +kernel
theorem dX6_cuts_14 : decode cX6_cuts 14 = .ok (.iload_n 1, 1) := by decide +kernel
theorem dX6_cuts_15 : decode cX6_cuts 15 = .ok (.iload_n 2, 1) := by decide +kernel
theorem dX6_cuts_16 : decode cX6_cuts 16 = .ok (.invokevirtual 44, 3) := by decide +kernel
theorem dX6_cuts_19 : decode cX6_cuts 19 = .ok (.iadd, 1) := by decide +kernel
theorem dX6_cuts_20 : decode cX6_cuts 20 = .ok (.istore 4, 2) := by decide +kernel
theorem dX6_cuts_22 : decode cX6_cuts 22 = .ok (.aload_n 0, 1) := by decide +kernel
theorem dX6_cuts_23 : decode cX6_cuts 23 = .ok (.getfield 7, 3) := by decide +kernel
theorem dX6_cuts_26 : decode cX6_cuts 26 = .ok (.iload_n 3, 1) := by decide +kernel
theorem dX6_cuts_27 : decode cX6_cuts 27 = .ok (.iconst 2, 1) := by decide +kernel
theorem dX6_cuts_28 : decode cX6_cuts 28 = .ok (.iadd, 1) := by decide +kernel
theorem dX6_cuts_29 : decode cX6_cuts 29 = .ok (.iload_n 2, 1) := by decide +kernel
theorem dX6_cuts_30 : decode cX6_cuts 30 = .ok (.iastore, 1) := by decide +kernel
theorem dX6_cuts_31 : decode cX6_cuts 31 = .ok (.aload_n 0, 1) := by decide +kernel
theorem dX6_cuts_32 : decode cX6_cuts 32 = .ok (.getfield 7, 3) := by decide +kernel
theorem dX6_cuts_35 : decode cX6_cuts 35 = .ok (.iload_n 3, 1) := by decide +kernel
theorem dX6_cuts_36 : decode cX6_cuts 36 = .ok (.iconst 3, 1) := by decide +kernel
theorem dX6_cuts_37 : decode cX6_cuts 37 = .ok (.iadd, 1) := by decide +kernel
theorem dX6_cuts_38 : decode cX6_cuts 38 = .ok (.aload_n 0, 1) := by decide +kernel
theorem dX6_cuts_39 : decode cX6_cuts 39 = .ok (.getfield 7, 3) := by decide +kernel
theorem dX6_cuts_42 : decode cX6_cuts 42 = .ok (.iload_n 3, 1) := by decide +kernel
theorem dX6_cuts_43 : decode cX6_cuts 43 = .ok (.iconst 3, 1) := by decide +kernel
theorem dX6_cuts_44 : decode cX6_cuts 44 = .ok (.iadd, 1) := by decide +kernel
theorem dX6_cuts_45 : decode cX6_cuts 45 = .ok (.iaload, 1) := by decide +kernel
theorem dX6_cuts_46 : decode cX6_cuts 46 = .ok (.iload_n 2, 1) := by decide +kernel
theorem dX6_cuts_47 : decode cX6_cuts 47 = .ok (.if_icmp .ge 14, 3) := by decide +kernel
theorem dX6_cuts_50 : decode cX6_cuts 50 = .ok (.aload_n 0, 1) := by decide +kernel
theorem dX6_cuts_51 : decode cX6_cuts 51 = .ok (.getfield 7, 3) := by decide +kernel
theorem dX6_cuts_54 : decode cX6_cuts 54 = .ok (.iload_n 3, 1) := by decide +kernel
theorem dX6_cuts_55 : decode cX6_cuts 55 = .ok (.iconst 3, 1) := by decide +kernel
theorem dX6_cuts_56 : decode cX6_cuts 56 = .ok (.iadd, 1) := by decide +kernel
theorem dX6_cuts_57 : decode cX6_cuts 57 = .ok (.iaload, 1) := by decide +kernel
theorem dX6_cuts_58 : decode cX6_cuts 58 = .ok (.goto 4, 3) := by decide +kernel
theorem dX6_cuts_61 : decode cX6_cuts 61 = .ok (.iload_n 2, 1) := by decide +kernel
theorem dX6_cuts_62 : decode cX6_cuts 62 = .ok (.iastore, 1) := by decide +kernel
theorem dX6_cuts_63 : decode cX6_cuts 63 = .ok (.iload 4, 2) := by decide +kernel
theorem dX6_cuts_65 : decode cX6_cuts 65 = .ok (.ireturn, 1) := by decide +kernel
set_option maxRecDepth 20000 in
theorem ggX6_crashes_X6_at : GoodIn wsX6_crashes wsX6_at := goodIn_r _ [5] (by decide +kernel) (by decide +kernel)
set_option maxRecDepth 20000 in
theorem gX6_crashes_X6_at : GoodIn wsX6_crashes (va_wsS RX6 28 yX6_at wsX6_at) := goodIn_app (goodIn_of _ (by decide +kernel)) ggX6_crashes_X6_at
set_option maxRecDepth 20000 in
theorem ggX6_crashes_X6_isThere : GoodIn wsX6_crashes wsX6_isThere := goodIn_r _ [9, 1, 10, 11, 4, 12, 2, 3, 5, 13, 14, 15, 16, 17, 18, 19, 20, 21, 22] (by decide +kernel) (by decide +kernel)
set_option maxRecDepth 20000 in
theorem gX6_crashes_X6_isThere : GoodIn wsX6_crashes (wsV RX6 83 RX6 yX6_isThere wsX6_isThere) := goodIn_app (goodIn_of _ (by decide +kernel)) ggX6_crashes_X6_isThere
theorem dX6_crashes_0 : decode cX6_crashes 0 = .ok (.iconst 0, 1) := by decide +kernel
theorem dX6_crashes_1 : decode cX6_crashes 1 = .ok (.istore_n 1, 1) := by decide +kernel
theorem dX6_crashes_2 : decode cX6_crashes 2 = .ok (.iconst 0, 1) := by decide +kernel
theorem dX6_crashes_3 : decode cX6_crashes 3 = .ok (.istore_n 2, 1) := by decide +kernel
theorem dX6_crashes_4 : decode cX6_crashes 4 = .ok (.iload_n 2, 1) := by decide +kernel
theorem dX6_crashes_5 : decode cX6_crashes 5 = .ok (.bipush 8, 2) := by decide +kernel
theorem dX6_crashes_7 : decode cX6_crashes 7 = .ok (.if_icmp .ge 77, 3) := by decide +kernel
theorem dX6_crashes_10 : decode cX6_crashes 10 = .ok (.iconst 0, 1) := by decide +kernel
theorem dX6_crashes_11 : decode cX6_crashes 11 = .ok (.iload_n 2, 1) := by decide +kernel
theorem dX6_crashes_12 : decode cX6_crashes 12 = .ok (.invokestatic 28, 3) := by decide +kernel
theorem dX6_crashes_15 : decode cX6_crashes 15 = .ok (.istore_n 3, 1) := by decide +kernel
theorem dX6_crashes_16 : decode cX6_crashes 16 = .ok (.aload_n 0, 1) := by decide +kernel
theorem dX6_crashes_17 : decode cX6_crashes 17 = .ok (.iload_n 2, 1) := by decide +kernel
theorem dX6_crashes_18 : decode cX6_crashes 18 = .ok (.invokevirtual 83, 3) := by decide +kernel
theorem dX6_crashes_21 : decode cX6_crashes 21 = .ok (.ifCond .eq 57, 3) := by decide +kernel
theorem dX6_crashes_24 : decode cX6_crashes 24 = .ok (.iload_n 1, 1) := by decide +kernel
theorem dX6_crashes_25 : decode cX6_crashes 25 = .ok (.aload_n 0, 1) := by decide +kernel
theorem dX6_crashes_26 : decode cX6_crashes 26 = .ok (.getfield 7, 3) := by decide +kernel
theorem dX6_crashes_29 : decode cX6_crashes 29 = .ok (.iload_n 3, 1) := by decide +kernel
theorem dX6_crashes_30 : decode cX6_crashes 30 = .ok (.iconst 2, 1) := by decide +kernel
theorem dX6_crashes_31 : decode cX6_crashes 31 = .ok (.iadd, 1) := by decide +kernel
theorem dX6_crashes_32 : decode cX6_crashes 32 = .ok (.iaload, 1) := by decide +kernel
theorem dX6_crashes_33 : decode cX6_crashes 33 = .ok (.aload_n 0, 1) := by decide +kernel
theorem dX6_crashes_34 : decode cX6_crashes 34 = .ok (.getfield 7, 3) := by decide +kernel
theorem dX6_crashes_37 : decode cX6_crashes 37 = .ok (.iload_n 3, 1) := by decide +kernel
theorem dX6_crashes_38 : decode cX6_crashes 38 = .ok (.iconst 3, 1) := by decide +kernel
theorem dX6_crashes_39 : decode cX6_crashes 39 = .ok (.iadd, 1) := by decide +kernel
theorem dX6_crashes_40 : decode cX6_crashes 40 = .ok (.iaload, 1) := by decide +kernel
theorem dX6_crashes_41 : decode cX6_crashes 41 = .ok (.isub, 1) := by decide +kernel
theorem dX6_crashes_42 : decode cX6_crashes 42 = .ok (.iadd, 1) := by decide +kernel
theorem dX6_crashes_43 : decode cX6_crashes 43 = .ok (.istore_n 1, 1) := by decide +kernel
theorem dX6_crashes_44 : decode cX6_crashes 44 = .ok (.aload_n 0, 1) := by decide +kernel
theorem dX6_crashes_45 : decode cX6_crashes 45 = .ok (.getfield 7, 3) := by decide +kernel
theorem dX6_crashes_48 : decode cX6_crashes 48 = .ok (.iload_n 3, 1) := by decide +kernel
theorem dX6_crashes_49 : decode cX6_crashes 49 = .ok (.iconst 2, 1) := by decide +kernel
theorem dX6_crashes_50 : decode cX6_crashes 50 = .ok (.iadd, 1) := by decide +kernel
theorem dX6_crashes_51 : decode cX6_crashes 51 = .ok (.aload_n 0, 1) := by decide +kernel
theorem dX6_crashes_52 : decode cX6_crashes 52 = .ok (.getfield 7, 3) := by decide +kernel
theorem dX6_crashes_55 : decode cX6_crashes 55 = .ok (.iload_n 3, 1) := by decide +kernel
theorem dX6_crashes_56 : decode cX6_crashes 56 = .ok (.iconst 3, 1) := by decide +kernel
theorem dX6_crashes_57 : decode cX6_crashes 57 = .ok (.iadd, 1) := by decide +kernel
theorem dX6_crashes_58 : decode cX6_crashes 58 = .ok (.iaload, 1) := by decide +kernel
theorem dX6_crashes_59 : decode cX6_crashes 59 = .ok (.iastore, 1) := by decide +kernel
theorem dX6_crashes_60 : decode cX6_crashes 60 = .ok (.aload_n 0, 1) := by decide +kernel
theorem dX6_crashes_61 : decode cX6_crashes 61 = .ok (.getfield 7, 3) := by decide +kernel
theorem dX6_crashes_64 : decode cX6_crashes 64 = .ok (.iload_n 3, 1) := by decide +kernel
theorem dX6_crashes_65 : decode cX6_crashes 65 = .ok (.iconst 5, 1) := by decide +kernel
theorem dX6_crashes_66 : decode cX6_crashes 66 = .ok (.iadd, 1) := by decide +kernel
theorem dX6_crashes_67 : decode cX6_crashes 67 = .ok (.iconst 1, 1) := by decide +kernel
theorem dX6_crashes_68 : decode cX6_crashes 68 = .ok (.iastore, 1) := by decide +kernel
theorem dX6_crashes_69 : decode cX6_crashes 69 = .ok (.aload_n 0, 1) := by decide +kernel
theorem dX6_crashes_70 : decode cX6_crashes 70 = .ok (.getfield 7, 3) := by decide +kernel
theorem dX6_crashes_73 : decode cX6_crashes 73 = .ok (.iload_n 3, 1) := by decide +kernel
theorem dX6_crashes_74 : decode cX6_crashes 74 = .ok (.iconst 4, 1) := by decide +kernel
theorem dX6_crashes_75 : decode cX6_crashes 75 = .ok (.iadd, 1) := by decide +kernel
theorem dX6_crashes_76 : decode cX6_crashes 76 = .ok (.iconst 0, 1) := by decide +kernel
theorem dX6_crashes_77 : decode cX6_crashes 77 = .ok (.iastore, 1) := by decide +kernel
theorem dX6_crashes_78 : decode cX6_crashes 78 = .ok (.iinc 2 1, 3) := by decide +kernel
theorem dX6_crashes_81 : decode cX6_crashes 81 = .ok (.goto (-77), 3) := by decide +kernel
theorem dX6_crashes_84 : decode cX6_crashes 84 = .ok (.aload_n 0, 1) := by decide +kernel
theorem dX6_crashes_85 : decode cX6_crashes 85 = .ok (.getfield 7, 3) := by decide +kernel
theorem dX6_crashes_88 : decode cX6_crashes 88 = .ok (.sipush 245, 3) := by decide +kernel
theorem dX6_crashes_91 : decode cX6_crashes 91 = .ok (.dup2, 1) := by decide +kernel
theorem dX6_crashes_92 : decode cX6_crashes 92 = .ok (.iaload, 1) := by decide +kernel
theorem dX6_crashes_93 : decode cX6_crashes 93 = .ok (.iload_n 1, 1) := by decide +kernel
theorem dX6_crashes_94 : decode cX6_crashes 94 = .ok (.iadd, 1) := by decide +kernel
theorem dX6_crashes_95 : decode cX6_crashes 95 = .ok (.iastore, 1) := by decide +kernel
theorem dX6_crashes_96 : decode cX6_crashes 96 = .ok (.iload_n 1, 1) := by decide +kernel
theorem dX6_crashes_97 : decode cX6_crashes 97 = .ok (.ireturn, 1) := by decide +kernel
set_option maxRecDepth 20000 in
theorem ggX6_mends_X6_isThere : GoodIn wsX6_mends wsX6_isThere := goodIn_r _ [5, 6, 7, 8, 4, 9, 10, 11, 12, 25, 26, 27, 28, 29, 30, 31, 32, 33, 34] (by decide +kernel) (by decide +kernel)
set_option maxRecDepth 20000 in
theorem gX6_mends_X6_isThere : GoodIn wsX6_mends (wsV RX6 83 RX6 yX6_isThere wsX6_isThere) := goodIn_app (goodIn_of _ (by decide +kernel)) ggX6_mends_X6_isThere
set_option maxRecDepth 20000 in
theorem ggX6_mends_X6_isOpen : GoodIn wsX6_mends wsX6_isOpen := goodIn_r _ [16, 6, 10, 11, 4, 12, 25, 26, 27, 28, 29, 30, 31, 32, 33, 34] (by decide +kernel) (by decide +kernel)
set_option maxRecDepth 20000 in
theorem gX6_mends_X6_isOpen : GoodIn wsX6_mends (wsV RX6 87 RX6 yX6_isOpen wsX6_isOpen) := goodIn_app (goodIn_of _ (by decide +kernel)) ggX6_mends_X6_isOpen
set_option maxRecDepth 20000 in
theorem ggX6_mends_X6_givesBack : GoodIn wsX6_mends wsX6_givesBack := goodIn_r _ [20, 6, 10, 11, 4, 12, 21, 22, 23, 24, 25, 26, 27, 28, 29, 30, 31, 32, 33, 34] (by decide +kernel) (by decide +kernel)
set_option maxRecDepth 20000 in
theorem gX6_mends_X6_givesBack : GoodIn wsX6_mends (wsV RX6 63 RX6 yX6_givesBack wsX6_givesBack) := goodIn_app (goodIn_of _ (by decide +kernel)) ggX6_mends_X6_givesBack
theorem dX6_mends_0 : decode cX6_mends 0 = .ok (.iconst 0, 1) := by decide +kernel
theorem dX6_mends_1 : decode cX6_mends 1 = .ok (.istore_n 1, 1) := by decide +kernel
theorem dX6_mends_2 : decode cX6_mends 2 = .ok (.iconst 0, 1) := by decide +kernel
theorem dX6_mends_3 : decode cX6_mends 3 = .ok (.istore_n 2, 1) := by decide +kernel
theorem dX6_mends_4 : decode cX6_mends 4 = .ok (.iload_n 2, 1) := by decide +kernel
theorem dX6_mends_5 : decode cX6_mends 5 = .ok (.bipush 8, 2) := by decide +kernel
theorem dX6_mends_7 : decode cX6_mends 7 = .ok (.if_icmp .ge 38, 3) := by decide +kernel
theorem dX6_mends_10 : decode cX6_mends 10 = .ok (.iload_n 1, 1) := by decide +kernel
theorem dX6_mends_11 : decode cX6_mends 11 = .ok (.aload_n 0, 1) := by decide +kernel
theorem dX6_mends_12 : decode cX6_mends 12 = .ok (.iload_n 2, 1) := by decide +kernel
theorem dX6_mends_13 : decode cX6_mends 13 = .ok (.invokevirtual 83, 3) := by decide +kernel
theorem dX6_mends_16 : decode cX6_mends 16 = .ok (.ifCond .eq 20, 3) := by decide +kernel
theorem dX6_mends_19 : decode cX6_mends 19 = .ok (.aload_n 0, 1) := by decide +kernel
theorem dX6_mends_20 : decode cX6_mends 20 = .ok (.iload_n 2, 1) := by decide +kernel
theorem dX6_mends_21 : decode cX6_mends 21 = .ok (.invokevirtual 87, 3) := by decide +kernel
theorem dX6_mends_24 : decode cX6_mends 24 = .ok (.ifCond .ne 12, 3) := by decide +kernel
theorem dX6_mends_27 : decode cX6_mends 27 = .ok (.aload_n 0, 1) := by decide +kernel
theorem dX6_mends_28 : decode cX6_mends 28 = .ok (.iconst 0, 1) := by decide +kernel
theorem dX6_mends_29 : decode cX6_mends 29 = .ok (.iload_n 2, 1) := by decide +kernel
theorem dX6_mends_30 : decode cX6_mends 30 = .ok (.invokevirtual 63, 3) := by decide +kernel
theorem dX6_mends_33 : decode cX6_mends 33 = .ok (.goto 4, 3) := by decide +kernel
theorem dX6_mends_36 : decode cX6_mends 36 = .ok (.iconst 0, 1) := by decide +kernel
theorem dX6_mends_37 : decode cX6_mends 37 = .ok (.iadd, 1) := by decide +kernel
theorem dX6_mends_38 : decode cX6_mends 38 = .ok (.istore_n 1, 1) := by decide +kernel
theorem dX6_mends_39 : decode cX6_mends 39 = .ok (.iinc 2 1, 3) := by decide +kernel
theorem dX6_mends_42 : decode cX6_mends 42 = .ok (.goto (-38), 3) := by decide +kernel
theorem dX6_mends_45 : decode cX6_mends 45 = .ok (.iload_n 1, 1) := by decide +kernel
theorem dX6_mends_46 : decode cX6_mends 46 = .ok (.ireturn, 1) := by decide +kernel
set_option maxRecDepth 20000 in
theorem ggX6_create_X6_createError : GoodIn wsX6_create wsX6_createError := goodIn_r _ [5, 6, 7, 8, 4, 9, 10, 11, 12, 13, 34, 35, 36, 37, 38, 39, 40, 41, 42, 43] (by decide +kernel) (by decide +kernel)
set_option maxRecDepth 20000 in
theorem gX6_create_X6_createError : GoodIn wsX6_create (wsV RX6 100 RX6 yX6_createError wsX6_createError) := goodIn_app (goodIn_of _ (by decide +kernel)) ggX6_create_X6_createError
set_option maxRecDepth 20000 in
theorem ggX6_create_X6_records : GoodIn wsX6_create wsX6_records := goodIn_r _ [17, 18, 19, 20, 21, 4, 22, 10, 34, 35, 36, 37, 38, 39, 40, 41, 42, 43] (by decide +kernel) (by decide +kernel)
set_option maxRecDepth 20000 in
theorem gX6_create_X6_records : GoodIn wsX6_create (wsV RX6 103 RX6 yX6_records wsX6_records) := goodIn_app (goodIn_of _ (by decide +kernel)) ggX6_create_X6_records
set_option maxRecDepth 20000 in
theorem ggX6_create_X6_creates : GoodIn wsX6_create wsX6_creates := goodIn_r _ [26, 10, 27, 28, 29, 4, 30, 31, 32, 33, 11, 12, 13, 34, 35, 36, 37, 38, 39, 40, 41, 42, 43] (by decide +kernel) (by decide +kernel)
set_option maxRecDepth 20000 in
theorem gX6_create_X6_creates : GoodIn wsX6_create (wsV RX6 106 RX6 yX6_creates wsX6_creates) := goodIn_app (goodIn_of _ (by decide +kernel)) ggX6_create_X6_creates
theorem dX6_create_0 : decode cX6_create 0 = .ok (.aload_n 0, 1) := by decide +kernel
theorem dX6_create_1 : decode cX6_create 1 = .ok (.invokevirtual 100, 3) := by decide +kernel
theorem dX6_create_4 : decode cX6_create 4 = .ok (.istore_n 1, 1) := by decide +kernel
theorem dX6_create_5 : decode cX6_create 5 = .ok (.iload_n 1, 1) := by decide +kernel
theorem dX6_create_6 : decode cX6_create 6 = .ok (.ifCond .eq 5, 3) := by decide +kernel
theorem dX6_create_9 : decode cX6_create 9 = .ok (.iload_n 1, 1) := by decide +kernel
theorem dX6_create_10 : decode cX6_create 10 = .ok (.ireturn, 1) := by decide +kernel
theorem dX6_create_11 : decode cX6_create 11 = .ok (.aload_n 0, 1) := by decide +kernel
theorem dX6_create_12 : decode cX6_create 12 = .ok (.invokevirtual 103, 3) := by decide +kernel
theorem dX6_create_15 : decode cX6_create 15 = .ok (.aload_n 0, 1) := by decide +kernel
theorem dX6_create_16 : decode cX6_create 16 = .ok (.invokevirtual 106, 3) := by decide +kernel
theorem dX6_create_19 : decode cX6_create 19 = .ok (.ireturn, 1) := by decide +kernel
set_option maxRecDepth 20000 in
theorem ggX6_open_X6_openError : GoodIn wsX6_open wsX6_openError := goodIn_r _ [5, 6, 7, 8, 4, 9, 10, 11, 12, 13, 14, 15, 16, 17, 18, 19, 20, 41, 42, 43, 44, 45, 46, 47, 48, 49, 50] (by decide +kernel) (by decide +kernel)
set_option maxRecDepth 20000 in
theorem gX6_open_X6_openError : GoodIn wsX6_open (wsV RX6 109 RX6 yX6_openError wsX6_openError) := goodIn_app (goodIn_of _ (by decide +kernel)) ggX6_open_X6_openError
set_option maxRecDepth 20000 in
theorem ggX6_open_X6_records : GoodIn wsX6_open wsX6_records := goodIn_r _ [24, 25, 26, 27, 28, 4, 29, 10, 41, 42, 43, 44, 45, 46, 47, 48, 49, 50] (by decide +kernel) (by decide +kernel)
set_option maxRecDepth 20000 in
theorem gX6_open_X6_records : GoodIn wsX6_open (wsV RX6 103 RX6 yX6_records wsX6_records) := goodIn_app (goodIn_of _ (by decide +kernel)) ggX6_open_X6_records
set_option maxRecDepth 20000 in
theorem ggX6_open_X6_opens : GoodIn wsX6_open wsX6_opens := goodIn_r _ [33, 10, 14, 15, 4, 16, 34, 35, 36, 37, 6, 7, 8, 9, 11, 12, 13, 17, 18, 19, 20, 38, 39, 40, 41, 42, 43, 44, 45, 46, 47, 48, 49, 50] (by decide +kernel) (by decide +kernel)
set_option maxRecDepth 20000 in
theorem gX6_open_X6_opens : GoodIn wsX6_open (wsV RX6 112 RX6 yX6_opens wsX6_opens) := goodIn_app (goodIn_of _ (by decide +kernel)) ggX6_open_X6_opens
theorem dX6_open_0 : decode cX6_open 0 = .ok (.aload_n 0, 1) := by decide +kernel
theorem dX6_open_1 : decode cX6_open 1 = .ok (.iload_n 1, 1) := by decide +kernel
theorem dX6_open_2 : decode cX6_open 2 = .ok (.invokevirtual 109, 3) := by decide +kernel
theorem dX6_open_5 : decode cX6_open 5 = .ok (.istore_n 2, 1) := by decide +kernel
theorem dX6_open_6 : decode cX6_open 6 = .ok (.iload_n 2, 1) := by decide +kernel
theorem dX6_open_7 : decode cX6_open 7 = .ok (.ifCond .eq 5, 3) := by decide +kernel
theorem dX6_open_10 : decode cX6_open 10 = .ok (.iload_n 2, 1) := by decide +kernel
theorem dX6_open_11 : decode cX6_open 11 = .ok (.ireturn, 1) := by decide +kernel
theorem dX6_open_12 : decode cX6_open 12 = .ok (.aload_n 0, 1) := by decide +kernel
theorem dX6_open_13 : decode cX6_open 13 = .ok (.invokevirtual 103, 3) := by decide +kernel
theorem dX6_open_16 : decode cX6_open 16 = .ok (.aload_n 0, 1) := by decide +kernel
theorem dX6_open_17 : decode cX6_open 17 = .ok (.iload_n 1, 1) := by decide +kernel
theorem dX6_open_18 : decode cX6_open 18 = .ok (.invokevirtual 112, 3) := by decide +kernel
theorem dX6_open_21 : decode cX6_open 21 = .ok (.ireturn, 1) := by decide +kernel
set_option maxRecDepth 20000 in
theorem ggX6_close_X6_closeError : GoodIn wsX6_close wsX6_closeError := goodIn_r _ [5, 6, 7, 8, 4, 9, 10, 11, 12, 13, 14, 15, 16, 17, 18, 19, 20, 42, 43, 44, 45, 46, 47, 48, 49, 50, 51] (by decide +kernel) (by decide +kernel)
set_option maxRecDepth 20000 in
theorem gX6_close_X6_closeError : GoodIn wsX6_close (wsV RX6 115 RX6 yX6_closeError wsX6_closeError) := goodIn_app (goodIn_of _ (by decide +kernel)) ggX6_close_X6_closeError
set_option maxRecDepth 20000 in
theorem ggX6_close_X6_records : GoodIn wsX6_close wsX6_records := goodIn_r _ [24, 25, 26, 27, 28, 4, 29, 10, 42, 43, 44, 45, 46, 47, 48, 49, 50, 51] (by decide +kernel) (by decide +kernel)
set_option maxRecDepth 20000 in
theorem gX6_close_X6_records : GoodIn wsX6_close (wsV RX6 103 RX6 yX6_records wsX6_records) := goodIn_app (goodIn_of _ (by decide +kernel)) ggX6_close_X6_records
set_option maxRecDepth 20000 in
theorem ggX6_close_X6_closes : GoodIn wsX6_close wsX6_closes := goodIn_r _ [33, 10, 34, 35, 36, 4, 37, 14, 15, 16, 38, 39, 40, 41, 42, 43, 44, 45, 46, 47, 48, 49, 50, 51] (by decide +kernel) (by decide +kernel)
set_option maxRecDepth 20000 in
theorem gX6_close_X6_closes : GoodIn wsX6_close (wsV RX6 118 RX6 yX6_closes wsX6_closes) := goodIn_app (goodIn_of _ (by decide +kernel)) ggX6_close_X6_closes
theorem dX6_close_0 : decode cX6_close 0 = .ok (.aload_n 0, 1) := by decide +kernel
theorem dX6_close_1 : decode cX6_close 1 = .ok (.iload_n 1, 1) := by decide +kernel
theorem dX6_close_2 : decode cX6_close 2 = .ok (.invokevirtual 115, 3) := by decide +kernel
theorem dX6_close_5 : decode cX6_close 5 = .ok (.istore_n 2, 1) := by decide +kernel
theorem dX6_close_6 : decode cX6_close 6 = .ok (.iload_n 2, 1) := by decide +kernel
theorem dX6_close_7 : decode cX6_close 7 = .ok (.ifCond .eq 5, 3) := by decide +kernel
theorem dX6_close_10 : decode cX6_close 10 = .ok (.iload_n 2, 1) := by decide +kernel
theorem dX6_close_11 : decode cX6_close 11 = .ok (.ireturn, 1) := by decide +kernel
theorem dX6_close_12 : decode cX6_close 12 = .ok (.aload_n 0, 1) := by decide +kernel
theorem dX6_close_13 : decode cX6_close 13 = .ok (.invokevirtual 103, 3) := by decide +kernel
theorem dX6_close_16 : decode cX6_close 16 = .ok (.aload_n 0, 1) := by decide +kernel
theorem dX6_close_17 : decode cX6_close 17 = .ok (.iload_n 1, 1) := by decide +kernel
theorem dX6_close_18 : decode cX6_close 18 = .ok (.invokevirtual 118, 3) := by decide +kernel
theorem dX6_close_21 : decode cX6_close 21 = .ok (.ireturn, 1) := by decide +kernel
set_option maxRecDepth 20000 in
theorem ggX6_remove_X6_openError : GoodIn wsX6_remove wsX6_openError := goodIn_r _ [5, 6, 7, 8, 4, 9, 10, 11, 12, 13, 14, 15, 16, 17, 18, 19, 20, 38, 39, 40, 41, 42, 43, 44, 45, 46, 47] (by decide +kernel) (by decide +kernel)
set_option maxRecDepth 20000 in
theorem gX6_remove_X6_openError : GoodIn wsX6_remove (wsV RX6 109 RX6 yX6_openError wsX6_openError) := goodIn_app (goodIn_of _ (by decide +kernel)) ggX6_remove_X6_openError
set_option maxRecDepth 20000 in
theorem ggX6_remove_X6_records : GoodIn wsX6_remove wsX6_records := goodIn_r _ [24, 25, 26, 27, 28, 4, 29, 10, 38, 39, 40, 41, 42, 43, 44, 45, 46, 47] (by decide +kernel) (by decide +kernel)
set_option maxRecDepth 20000 in
theorem gX6_remove_X6_records : GoodIn wsX6_remove (wsV RX6 103 RX6 yX6_records wsX6_records) := goodIn_app (goodIn_of _ (by decide +kernel)) ggX6_remove_X6_records
set_option maxRecDepth 20000 in
theorem ggX6_remove_X6_removes : GoodIn wsX6_remove wsX6_removes := goodIn_r _ [33, 10, 34, 35, 36, 4, 37, 14, 15, 16, 38, 39, 40, 41, 42, 43, 44, 45, 46, 47] (by decide +kernel) (by decide +kernel)
set_option maxRecDepth 20000 in
theorem gX6_remove_X6_removes : GoodIn wsX6_remove (wsV RX6 121 RX6 yX6_removes wsX6_removes) := goodIn_app (goodIn_of _ (by decide +kernel)) ggX6_remove_X6_removes
theorem dX6_remove_0 : decode cX6_remove 0 = .ok (.aload_n 0, 1) := by decide +kernel
theorem dX6_remove_1 : decode cX6_remove 1 = .ok (.iload_n 1, 1) := by decide +kernel
theorem dX6_remove_2 : decode cX6_remove 2 = .ok (.invokevirtual 109, 3) := by decide +kernel
theorem dX6_remove_5 : decode cX6_remove 5 = .ok (.istore_n 2, 1) := by decide +kernel
theorem dX6_remove_6 : decode cX6_remove 6 = .ok (.iload_n 2, 1) := by decide +kernel
theorem dX6_remove_7 : decode cX6_remove 7 = .ok (.ifCond .eq 5, 3) := by decide +kernel
theorem dX6_remove_10 : decode cX6_remove 10 = .ok (.iload_n 2, 1) := by decide +kernel
theorem dX6_remove_11 : decode cX6_remove 11 = .ok (.ireturn, 1) := by decide +kernel
theorem dX6_remove_12 : decode cX6_remove 12 = .ok (.aload_n 0, 1) := by decide +kernel
theorem dX6_remove_13 : decode cX6_remove 13 = .ok (.invokevirtual 103, 3) := by decide +kernel
theorem dX6_remove_16 : decode cX6_remove 16 = .ok (.aload_n 0, 1) := by decide +kernel
theorem dX6_remove_17 : decode cX6_remove 17 = .ok (.iload_n 1, 1) := by decide +kernel
theorem dX6_remove_18 : decode cX6_remove 18 = .ok (.invokevirtual 121, 3) := by decide +kernel
theorem dX6_remove_21 : decode cX6_remove 21 = .ok (.ireturn, 1) := by decide +kernel
set_option maxRecDepth 20000 in
theorem ggX6_sync_X6_closeError : GoodIn wsX6_sync wsX6_closeError := goodIn_r _ [5, 6, 7, 8, 4, 9, 10, 11, 12, 13, 14, 15, 16, 17, 18, 19, 20, 34, 35, 36, 37, 38, 39, 40, 41, 42, 43] (by decide +kernel) (by decide +kernel)
set_option maxRecDepth 20000 in
theorem gX6_sync_X6_closeError : GoodIn wsX6_sync (wsV RX6 115 RX6 yX6_closeError wsX6_closeError) := goodIn_app (goodIn_of _ (by decide +kernel)) ggX6_sync_X6_closeError
set_option maxRecDepth 20000 in
theorem ggX6_sync_X6_records : GoodIn wsX6_sync wsX6_records := goodIn_r _ [24, 25, 26, 27, 28, 4, 29, 10, 34, 35, 36, 37, 38, 39, 40, 41, 42, 43] (by decide +kernel) (by decide +kernel)
set_option maxRecDepth 20000 in
theorem gX6_sync_X6_records : GoodIn wsX6_sync (wsV RX6 103 RX6 yX6_records wsX6_records) := goodIn_app (goodIn_of _ (by decide +kernel)) ggX6_sync_X6_records
set_option maxRecDepth 20000 in
theorem ggX6_sync_X6_syncs : GoodIn wsX6_sync wsX6_syncs := goodIn_r _ [33, 10, 14, 15, 4, 16, 34, 35, 36, 37, 38, 39, 40, 41, 42, 43] (by decide +kernel) (by decide +kernel)
set_option maxRecDepth 20000 in
theorem gX6_sync_X6_syncs : GoodIn wsX6_sync (wsV RX6 124 RX6 yX6_syncs wsX6_syncs) := goodIn_app (goodIn_of _ (by decide +kernel)) ggX6_sync_X6_syncs
theorem dX6_sync_0 : decode cX6_sync 0 = .ok (.aload_n 0, 1) := by decide +kernel
theorem dX6_sync_1 : decode cX6_sync 1 = .ok (.iload_n 1, 1) := by decide +kernel
theorem dX6_sync_2 : decode cX6_sync 2 = .ok (.invokevirtual 115, 3) := by decide +kernel
theorem dX6_sync_5 : decode cX6_sync 5 = .ok (.istore_n 2, 1) := by decide +kernel
theorem dX6_sync_6 : decode cX6_sync 6 = .ok (.iload_n 2, 1) := by decide +kernel
theorem dX6_sync_7 : decode cX6_sync 7 = .ok (.ifCond .eq 5, 3) := by decide +kernel
theorem dX6_sync_10 : decode cX6_sync 10 = .ok (.iload_n 2, 1) := by decide +kernel
theorem dX6_sync_11 : decode cX6_sync 11 = .ok (.ireturn, 1) := by decide +kernel
theorem dX6_sync_12 : decode cX6_sync 12 = .ok (.aload_n 0, 1) := by decide +kernel
theorem dX6_sync_13 : decode cX6_sync 13 = .ok (.invokevirtual 103, 3) := by decide +kernel
theorem dX6_sync_16 : decode cX6_sync 16 = .ok (.aload_n 0, 1) := by decide +kernel
theorem dX6_sync_17 : decode cX6_sync 17 = .ok (.iload_n 1, 1) := by decide +kernel
theorem dX6_sync_18 : decode cX6_sync 18 = .ok (.invokevirtual 124, 3) := by decide +kernel
theorem dX6_sync_21 : decode cX6_sync 21 = .ok (.ireturn, 1) := by decide +kernel
set_option maxRecDepth 20000 in
theorem ggX6_append_X6_appendError : GoodIn wsX6_append wsX6_appendError := goodIn_r _ [5, 6, 7, 8, 4, 9, 10, 11, 12, 13, 14, 15, 16, 17, 18, 19, 20, 21, 22, 23, 24, 25, 26, 27, 28, 29, 30, 31, 32, 33, 34, 35, 36, 37, 38, 39, 40, 41, 42, 43, 97, 98, 99, 100, 101, 102, 103, 104, 105, 106] (by decide +kernel) (by decide +kernel)
set_option maxRecDepth 20000 in
theorem gX6_append_X6_appendError : GoodIn wsX6_append (wsV RX6 127 RX6 yX6_appendError wsX6_appendError) := goodIn_app (goodIn_of _ (by decide +kernel)) ggX6_append_X6_appendError
set_option maxRecDepth 20000 in
theorem ggX6_append_X6_records : GoodIn wsX6_append wsX6_records := goodIn_r _ [47, 48, 49, 50, 51, 4, 52, 10, 97, 98, 99, 100, 101, 102, 103, 104, 105, 106] (by decide +kernel) (by decide +kernel)
set_option maxRecDepth 20000 in
theorem gX6_append_X6_records : GoodIn wsX6_append (wsV RX6 103 RX6 yX6_records wsX6_records) := goodIn_app (goodIn_of _ (by decide +kernel)) ggX6_append_X6_records
set_option maxRecDepth 20000 in
theorem ggX6_append_X6_appends : GoodIn wsX6_append wsX6_appends := goodIn_r _ [56, 10, 14, 15, 4, 16, 29, 30, 31, 32, 57, 58, 59, 60, 33, 34, 35, 36, 37, 38, 39, 40, 41, 42, 43, 61, 62, 63, 64, 65, 66, 67, 68, 69, 70, 71, 72, 73, 74, 75, 76, 77, 78, 79, 80, 81, 82, 83, 84, 85, 86, 87, 88, 89, 90, 91, 92, 93, 94, 95, 96, 97, 98, 99, 100, 101, 102, 103, 104, 105, 106] (by decide +kernel) (by decide +kernel)
set_option maxRecDepth 20000 in
theorem gX6_append_X6_appends : GoodIn wsX6_append (wsV RX6 130 RX6 yX6_appends wsX6_appends) := goodIn_app (goodIn_of _ (by decide +kernel)) ggX6_append_X6_appends
theorem dX6_append_0 : decode cX6_append 0 = .ok (.aload_n 0, 1) := by decide +kernel
theorem dX6_append_1 : decode cX6_append 1 = .ok (.iload_n 1, 1) := by decide +kernel
theorem dX6_append_2 : decode cX6_append 2 = .ok (.iload_n 2, 1) := by decide +kernel
theorem dX6_append_3 : decode cX6_append 3 = .ok (.iload_n 3, 1) := by decide +kernel
theorem dX6_append_4 : decode cX6_append 4 = .ok (.invokevirtual 127, 3) := by decide +kernel
theorem dX6_append_7 : decode cX6_append 7 = .ok (.istore 4, 2) := by decide +kernel
theorem dX6_append_9 : decode cX6_append 9 = .ok (.iload 4, 2) := by decide +kernel
theorem dX6_append_11 : decode cX6_append 11 = .ok (.ifCond .eq 6, 3) := by decide +kernel
theorem dX6_append_14 : decode cX6_append 14 = .ok (.iload 4, 2) := by decide +kernel
theorem dX6_append_16 : decode cX6_append 16 = .ok (.ireturn, 1) := by decide +kernel
theorem dX6_append_17 : decode cX6_append 17 = .ok (.aload_n 0, 1) := by decide +kernel
theorem dX6_append_18 : decode cX6_append 18 = .ok (.invokevirtual 103, 3) := by decide +kernel
theorem dX6_append_21 : decode cX6_append 21 = .ok (.aload_n 0, 1) := by decide +kernel
theorem dX6_append_22 : decode cX6_append 22 = .ok (.iconst 0, 1) := by decide +kernel
theorem dX6_append_23 : decode cX6_append 23 = .ok (.iload_n 1, 1) := by decide +kernel
theorem dX6_append_24 : decode cX6_append 24 = .ok (.iload_n 2, 1) := by decide +kernel
theorem dX6_append_25 : decode cX6_append 25 = .ok (.iload_n 3, 1) := by decide +kernel
theorem dX6_append_26 : decode cX6_append 26 = .ok (.invokevirtual 130, 3) := by decide +kernel
theorem dX6_append_29 : decode cX6_append 29 = .ok (.ireturn, 1) := by decide +kernel
set_option maxRecDepth 20000 in
theorem ggX6_cut_X6_cutError : GoodIn wsX6_cut wsX6_cutError := goodIn_r _ [5, 6, 7, 8, 9, 4, 10, 11, 12, 13, 14, 15, 16, 17, 18, 19, 20, 42, 43, 44, 45, 46, 47, 48, 49, 50, 51] (by decide +kernel) (by decide +kernel)
set_option maxRecDepth 20000 in
theorem gX6_cut_X6_cutError : GoodIn wsX6_cut (wsV RX6 133 RX6 yX6_cutError wsX6_cutError) := goodIn_app (goodIn_of _ (by decide +kernel)) ggX6_cut_X6_cutError
set_option maxRecDepth 20000 in
theorem ggX6_cut_X6_records : GoodIn wsX6_cut wsX6_records := goodIn_r _ [24, 25, 26, 27, 28, 4, 29, 6, 42, 43, 44, 45, 46, 47, 48, 49, 50, 51] (by decide +kernel) (by decide +kernel)
set_option maxRecDepth 20000 in
theorem gX6_cut_X6_records : GoodIn wsX6_cut (wsV RX6 103 RX6 yX6_records wsX6_records) := goodIn_app (goodIn_of _ (by decide +kernel)) ggX6_cut_X6_records
set_option maxRecDepth 20000 in
theorem ggX6_cut_X6_cuts : GoodIn wsX6_cut wsX6_cuts := goodIn_r _ [33, 6, 14, 15, 4, 16, 34, 35, 36, 37, 38, 39, 40, 41, 42, 43, 44, 45, 46, 47, 48, 49, 50, 51] (by decide +kernel) (by decide +kernel)
set_option maxRecDepth 20000 in
theorem gX6_cut_X6_cuts : GoodIn wsX6_cut (wsV RX6 136 RX6 yX6_cuts wsX6_cuts) := goodIn_app (goodIn_of _ (by decide +kernel)) ggX6_cut_X6_cuts
theorem dX6_cut_0 : decode cX6_cut 0 = .ok (.aload_n 0, 1) := by decide +kernel
theorem dX6_cut_1 : decode cX6_cut 1 = .ok (.iload_n 1, 1) := by decide +kernel
theorem dX6_cut_2 : decode cX6_cut 2 = .ok (.iload_n 2, 1) := by decide +kernel
theorem dX6_cut_3 : decode cX6_cut 3 = .ok (.invokevirtual 133, 3) := by decide +kernel
theorem dX6_cut_6 : decode cX6_cut 6 = .ok (.istore_n 3, 1) := by decide +kernel
theorem dX6_cut_7 : decode cX6_cut 7 = .ok (.iload_n 3, 1) := by decide +kernel
theorem dX6_cut_8 : decode cX6_cut 8 = .ok (.ifCond .eq 5, 3) := by decide +kernel
theorem dX6_cut_11 : decode cX6_cut 11 = .ok (.iload_n 3, 1) := by decide +kernel
theorem dX6_cut_12 : decode cX6_cut 12 = .ok (.ireturn, 1) := by decide +kernel
theorem dX6_cut_13 : decode cX6_cut 13 = .ok (.aload_n 0, 1) := by decide +kernel
theorem dX6_cut_14 : decode cX6_cut 14 = .ok (.invokevirtual 103, 3) := by decide +kernel
theorem dX6_cut_17 : decode cX6_cut 17 = .ok (.aload_n 0, 1) := by decide +kernel
theorem dX6_cut_18 : decode cX6_cut 18 = .ok (.iload_n 1, 1) := by decide +kernel
theorem dX6_cut_19 : decode cX6_cut 19 = .ok (.iload_n 2, 1) := by decide +kernel
theorem dX6_cut_20 : decode cX6_cut 20 = .ok (.invokevirtual 136, 3) := by decide +kernel
theorem dX6_cut_23 : decode cX6_cut 23 = .ok (.ireturn, 1) := by decide +kernel
set_option maxRecDepth 20000 in
theorem ggX6_crash_X6_records : GoodIn wsX6_crash wsX6_records := goodIn_r _ [5, 6, 7, 8, 9, 4, 10, 11, 26, 27, 28, 29, 30, 31, 32, 33, 34, 35] (by decide +kernel) (by decide +kernel)
set_option maxRecDepth 20000 in
theorem gX6_crash_X6_records : GoodIn wsX6_crash (wsV RX6 103 RX6 yX6_records wsX6_records) := goodIn_app (goodIn_of _ (by decide +kernel)) ggX6_crash_X6_records
set_option maxRecDepth 20000 in
theorem ggX6_crash_X6_crashes : GoodIn wsX6_crash wsX6_crashes := goodIn_r _ [15, 11, 16, 17, 4, 18, 19, 20, 21, 22, 23, 24, 25, 26, 27, 28, 29, 30, 31, 32, 33, 34, 35] (by decide +kernel) (by decide +kernel)
set_option maxRecDepth 20000 in
theorem gX6_crash_X6_crashes : GoodIn wsX6_crash (wsV RX6 139 RX6 yX6_crashes wsX6_crashes) := goodIn_app (goodIn_of _ (by decide +kernel)) ggX6_crash_X6_crashes
theorem dX6_crash_0 : decode cX6_crash 0 = .ok (.aload_n 0, 1) := by decide +kernel
theorem dX6_crash_1 : decode cX6_crash 1 = .ok (.invokevirtual 103, 3) := by decide +kernel
theorem dX6_crash_4 : decode cX6_crash 4 = .ok (.aload_n 0, 1) := by decide +kernel
theorem dX6_crash_5 : decode cX6_crash 5 = .ok (.invokevirtual 139, 3) := by decide +kernel
theorem dX6_crash_8 : decode cX6_crash 8 = .ok (.ireturn, 1) := by decide +kernel
set_option maxRecDepth 20000 in
theorem ggX6_mend_X6_records : GoodIn wsX6_mend wsX6_records := goodIn_r _ [5, 6, 7, 8, 9, 4, 10, 11, 38, 39, 40, 41, 42, 43, 44, 45, 46, 47] (by decide +kernel) (by decide +kernel)
set_option maxRecDepth 20000 in
theorem gX6_mend_X6_records : GoodIn wsX6_mend (wsV RX6 103 RX6 yX6_records wsX6_records) := goodIn_app (goodIn_of _ (by decide +kernel)) ggX6_mend_X6_records
set_option maxRecDepth 20000 in
theorem ggX6_mend_X6_mends : GoodIn wsX6_mend wsX6_mends := goodIn_r _ [15, 16, 17, 18, 4, 19, 11, 20, 21, 22, 23, 24, 25, 26, 27, 28, 29, 30, 31, 32, 33, 34, 35, 36, 37, 38, 39, 40, 41, 42, 43, 44, 45, 46, 47] (by decide +kernel) (by decide +kernel)
set_option maxRecDepth 20000 in
theorem gX6_mend_X6_mends : GoodIn wsX6_mend (wsV RX6 142 RX6 yX6_mends wsX6_mends) := goodIn_app (goodIn_of _ (by decide +kernel)) ggX6_mend_X6_mends
theorem dX6_mend_0 : decode cX6_mend 0 = .ok (.aload_n 0, 1) := by decide +kernel
theorem dX6_mend_1 : decode cX6_mend 1 = .ok (.invokevirtual 103, 3) := by decide +kernel
theorem dX6_mend_4 : decode cX6_mend 4 = .ok (.aload_n 0, 1) := by decide +kernel
theorem dX6_mend_5 : decode cX6_mend 5 = .ok (.invokevirtual 142, 3) := by decide +kernel
theorem dX6_mend_8 : decode cX6_mend 8 = .ok (.ireturn, 1) := by decide +kernel
set_option maxRecDepth 20000 in
theorem ggX6_set_X6_in : GoodIn wsX6_set wsX6_in := goodIn_r _ [5] (by decide +kernel) (by decide +kernel)
set_option maxRecDepth 20000 in
theorem gX6_set_X6_in : GoodIn wsX6_set (va_wsS RX6 24 yX6_in wsX6_in) := goodIn_app (goodIn_of _ (by decide +kernel)) ggX6_set_X6_in
set_option maxRecDepth 20000 in
theorem ggX6_set_X6_records : GoodIn wsX6_set wsX6_records := goodIn_r _ [9, 10, 11, 12, 13, 4, 14, 1, 15, 16, 17, 18, 19, 20, 21, 22, 23, 24] (by decide +kernel) (by decide +kernel)
set_option maxRecDepth 20000 in
theorem gX6_set_X6_records : GoodIn wsX6_set (wsV RX6 103 RX6 yX6_records wsX6_records) := goodIn_app (goodIn_of _ (by decide +kernel)) ggX6_set_X6_records
theorem dX6_set_0 : decode cX6_set 0 = .ok (.iload_n 1, 1) := by decide +kernel
theorem dX6_set_1 : decode cX6_set 1 = .ok (.iconst 0, 1) := by decide +kernel
theorem dX6_set_2 : decode cX6_set 2 = .ok (.iconst 1, 1) := by decide +kernel
theorem dX6_set_3 : decode cX6_set 3 = .ok (.invokestatic 24, 3) := by decide +kernel
theorem dX6_set_6 : decode cX6_set 6 = .ok (.ifCond .ne 5, 3) := by decide +kernel
theorem dX6_set_9 : decode cX6_set 9 = .ok (.iconst (-1), 1) := by decide +kernel
theorem dX6_set_10 : decode cX6_set 10 = .ok (.ireturn, 1) := by decide +kernel
theorem dX6_set_11 : decode cX6_set 11 = .ok (.iload_n 2, 1) := by decide +kernel
theorem dX6_set_12 : decode cX6_set 12 = .ok (.iconst 0, 1) := by decide +kernel
theorem dX6_set_13 : decode cX6_set 13 = .ok (.iload_n 1, 1) := by decide +kernel
theorem dX6_set_14 : decode cX6_set 14 = .ok (.ifCond .ne 8, 3) := by decide +kernel
theorem dX6_set_17 : decode cX6_set 17 = .ok (.bipush 16, 2) := by decide +kernel
theorem dX6_set_19 : decode cX6_set 19 = .ok (.goto 4, 3) := by decide +kernel
theorem dX6_set_22 : decode cX6_set 22 = .ok (.iconst 1, 1) := by decide +kernel
theorem dX6_set_23 : decode cX6_set 23 = .ok (.invokestatic 24, 3) := by decide +kernel
theorem dX6_set_26 : decode cX6_set 26 = .ok (.ifCond .ne 6, 3) := by decide +kernel
theorem dX6_set_29 : decode cX6_set 29 = .ok (.bipush (-2), 2) := by decide +kernel
theorem dX6_set_31 : decode cX6_set 31 = .ok (.ireturn, 1) := by decide +kernel
theorem dX6_set_32 : decode cX6_set 32 = .ok (.aload_n 0, 1) := by decide +kernel
theorem dX6_set_33 : decode cX6_set 33 = .ok (.invokevirtual 103, 3) := by decide +kernel
theorem dX6_set_36 : decode cX6_set 36 = .ok (.aload_n 0, 1) := by decide +kernel
theorem dX6_set_37 : decode cX6_set 37 = .ok (.getfield 7, 3) := by decide +kernel
theorem dX6_set_40 : decode cX6_set 40 = .ok (.sipush 240, 3) := by decide +kernel
theorem dX6_set_43 : decode cX6_set 43 = .ok (.iload_n 1, 1) := by decide +kernel
theorem dX6_set_44 : decode cX6_set 44 = .ok (.iadd, 1) := by decide +kernel
theorem dX6_set_45 : decode cX6_set 45 = .ok (.iaload, 1) := by decide +kernel
theorem dX6_set_46 : decode cX6_set 46 = .ok (.istore_n 3, 1) := by decide +kernel
theorem dX6_set_47 : decode cX6_set 47 = .ok (.aload_n 0, 1) := by decide +kernel
theorem dX6_set_48 : decode cX6_set 48 = .ok (.getfield 7, 3) := by decide +kernel
theorem dX6_set_51 : decode cX6_set 51 = .ok (.sipush 240, 3) := by decide +kernel
theorem dX6_set_54 : decode cX6_set 54 = .ok (.iload_n 1, 1) := by decide +kernel
theorem dX6_set_55 : decode cX6_set 55 = .ok (.iadd, 1) := by decide +kernel
theorem dX6_set_56 : decode cX6_set 56 = .ok (.iload_n 2, 1) := by decide +kernel
theorem dX6_set_57 : decode cX6_set 57 = .ok (.iastore, 1) := by decide +kernel
theorem dX6_set_58 : decode cX6_set 58 = .ok (.iload_n 3, 1) := by decide +kernel
theorem dX6_set_59 : decode cX6_set 59 = .ok (.ireturn, 1) := by decide +kernel
set_option maxRecDepth 20000 in
theorem ggX6_type_X6_in : GoodIn wsX6_type wsX6_in := goodIn_r _ [6] (by decide +kernel) (by decide +kernel)
set_option maxRecDepth 20000 in
theorem gX6_type_X6_in : GoodIn wsX6_type (va_wsS RX6 24 yX6_in wsX6_in) := goodIn_app (goodIn_of _ (by decide +kernel)) ggX6_type_X6_in
theorem dX6_type_0 : decode cX6_type 0 = .ok (.iload_n 1, 1) := by decide +kernel
theorem dX6_type_1 : decode cX6_type 1 = .ok (.bipush 32, 2) := by decide +kernel
theorem dX6_type_3 : decode cX6_type 3 = .ok (.bipush 126, 2) := by decide +kernel
theorem dX6_type_5 : decode cX6_type 5 = .ok (.invokestatic 24, 3) := by decide +kernel
theorem dX6_type_8 : decode cX6_type 8 = .ok (.ifCond .ne 6, 3) := by decide +kernel
theorem dX6_type_11 : decode cX6_type 11 = .ok (.bipush (-2), 2) := by decide +kernel
theorem dX6_type_13 : decode cX6_type 13 = .ok (.ireturn, 1) := by decide +kernel
theorem dX6_type_14 : decode cX6_type 14 = .ok (.aload_n 0, 1) := by decide +kernel
theorem dX6_type_15 : decode cX6_type 15 = .ok (.getfield 145, 3) := by decide +kernel
theorem dX6_type_18 : decode cX6_type 18 = .ok (.bipush 80, 2) := by decide +kernel
theorem dX6_type_20 : decode cX6_type 20 = .ok (.if_icmp .ne 6, 3) := by decide +kernel
theorem dX6_type_23 : decode cX6_type 23 = .ok (.bipush (-3), 2) := by decide +kernel
theorem dX6_type_25 : decode cX6_type 25 = .ok (.ireturn, 1) := by decide +kernel
theorem dX6_type_26 : decode cX6_type 26 = .ok (.aload_n 0, 1) := by decide +kernel
theorem dX6_type_27 : decode cX6_type 27 = .ok (.getfield 13, 3) := by decide +kernel
theorem dX6_type_30 : decode cX6_type 30 = .ok (.aload_n 0, 1) := by decide +kernel
theorem dX6_type_31 : decode cX6_type 31 = .ok (.getfield 145, 3) := by decide +kernel
theorem dX6_type_34 : decode cX6_type 34 = .ok (.iload_n 1, 1) := by decide +kernel
theorem dX6_type_35 : decode cX6_type 35 = .ok (.iastore, 1) := by decide +kernel
theorem dX6_type_36 : decode cX6_type 36 = .ok (.aload_n 0, 1) := by decide +kernel
theorem dX6_type_37 : decode cX6_type 37 = .ok (.dup, 1) := by decide +kernel
theorem dX6_type_38 : decode cX6_type 38 = .ok (.getfield 145, 3) := by decide +kernel
theorem dX6_type_41 : decode cX6_type 41 = .ok (.iconst 1, 1) := by decide +kernel
theorem dX6_type_42 : decode cX6_type 42 = .ok (.iadd, 1) := by decide +kernel
theorem dX6_type_43 : decode cX6_type 43 = .ok (.putfield 145, 3) := by decide +kernel
theorem dX6_type_46 : decode cX6_type 46 = .ok (.aload_n 0, 1) := by decide +kernel
theorem dX6_type_47 : decode cX6_type 47 = .ok (.getfield 145, 3) := by decide +kernel
theorem dX6_type_50 : decode cX6_type 50 = .ok (.ireturn, 1) := by decide +kernel
theorem dX6_clearText_0 : decode cX6_clearText 0 = .ok (.aload_n 0, 1) := by decide +kernel
theorem dX6_clearText_1 : decode cX6_clearText 1 = .ok (.getfield 145, 3) := by decide +kernel
theorem dX6_clearText_4 : decode cX6_clearText 4 = .ok (.istore_n 1, 1) := by decide +kernel
theorem dX6_clearText_5 : decode cX6_clearText 5 = .ok (.aload_n 0, 1) := by decide +kernel
theorem dX6_clearText_6 : decode cX6_clearText 6 = .ok (.iconst 0, 1) := by decide +kernel
theorem dX6_clearText_7 : decode cX6_clearText 7 = .ok (.putfield 145, 3) := by decide +kernel
theorem dX6_clearText_10 : decode cX6_clearText 10 = .ok (.iload_n 1, 1) := by decide +kernel
theorem dX6_clearText_11 : decode cX6_clearText 11 = .ok (.ireturn, 1) := by decide +kernel
set_option maxRecDepth 20000 in
theorem ggX6_isHere_X6_in : GoodIn wsX6_isHere wsX6_in := goodIn_r _ [7] (by decide +kernel) (by decide +kernel)
set_option maxRecDepth 20000 in
theorem gX6_isHere_X6_in : GoodIn wsX6_isHere (va_wsS RX6 24 yX6_in wsX6_in) := goodIn_app (goodIn_of _ (by decide +kernel)) ggX6_isHere_X6_in
theorem dX6_isHere_0 : decode cX6_isHere 0 = .ok (.aload_n 0, 1) := by decide +kernel
theorem dX6_isHere_1 : decode cX6_isHere 1 = .ok (.getfield 148, 3) := by decide +kernel
theorem dX6_isHere_4 : decode cX6_isHere 4 = .ok (.aload_n 0, 1) := by decide +kernel
theorem dX6_isHere_5 : decode cX6_isHere 5 = .ok (.getfield 145, 3) := by decide +kernel
theorem dX6_isHere_8 : decode cX6_isHere 8 = .ok (.if_icmp .ge 24, 3) := by decide +kernel
theorem dX6_isHere_11 : decode cX6_isHere 11 = .ok (.aload_n 0, 1) := by decide +kernel
theorem dX6_isHere_12 : decode cX6_isHere 12 = .ok (.getfield 13, 3) := by decide +kernel
theorem dX6_isHere_15 : decode cX6_isHere 15 = .ok (.aload_n 0, 1) := by decide +kernel
theorem dX6_isHere_16 : decode cX6_isHere 16 = .ok (.getfield 148, 3) := by decide +kernel
theorem dX6_isHere_19 : decode cX6_isHere 19 = .ok (.iaload, 1) := by decide +kernel
theorem dX6_isHere_20 : decode cX6_isHere 20 = .ok (.iload_n 1, 1) := by decide +kernel
theorem dX6_isHere_21 : decode cX6_isHere 21 = .ok (.iload_n 2, 1) := by decide +kernel
theorem dX6_isHere_22 : decode cX6_isHere 22 = .ok (.invokestatic 24, 3) := by decide +kernel
theorem dX6_isHere_25 : decode cX6_isHere 25 = .ok (.ifCond .eq 7, 3) := by decide +kernel
theorem dX6_isHere_28 : decode cX6_isHere 28 = .ok (.iconst 1, 1) := by decide +kernel
theorem dX6_isHere_29 : decode cX6_isHere 29 = .ok (.goto 4, 3) := by decide +kernel
theorem dX6_isHere_32 : decode cX6_isHere 32 = .ok (.iconst 0, 1) := by decide +kernel
theorem dX6_isHere_33 : decode cX6_isHere 33 = .ok (.ireturn, 1) := by decide +kernel
set_option maxRecDepth 20000 in
theorem ggX6_takes_X6_isHere : GoodIn wsX6_takes wsX6_isHere := goodIn_r _ [6, 1, 7, 8, 9, 10, 5, 11, 15, 16, 17, 18, 19, 20, 21, 22, 23, 24] (by decide +kernel) (by decide +kernel)
set_option maxRecDepth 20000 in
theorem gX6_takes_X6_isHere : GoodIn wsX6_takes (wsV RX6 151 RX6 yX6_isHere wsX6_isHere) := goodIn_app (goodIn_of _ (by decide +kernel)) ggX6_takes_X6_isHere
set_option maxRecDepth 20000 in
theorem ggX6_takes_X6_flag : GoodIn wsX6_takes wsX6_flag := goodIn_r _ [14] (by decide +kernel) (by decide +kernel)
set_option maxRecDepth 20000 in
theorem gX6_takes_X6_flag : GoodIn wsX6_takes (va_wsS RX6 36 yX6_flag wsX6_flag) := goodIn_app (goodIn_of _ (by decide +kernel)) ggX6_takes_X6_flag
theorem dX6_takes_0 : decode cX6_takes 0 = .ok (.aload_n 0, 1) := by decide +kernel
theorem dX6_takes_1 : decode cX6_takes 1 = .ok (.iload_n 1, 1) := by decide +kernel
theorem dX6_takes_2 : decode cX6_takes 2 = .ok (.iload_n 1, 1) := by decide +kernel
theorem dX6_takes_3 : decode cX6_takes 3 = .ok (.invokevirtual 151, 3) := by decide +kernel
theorem dX6_takes_6 : decode cX6_takes 6 = .ok (.istore_n 2, 1) := by decide +kernel
theorem dX6_takes_7 : decode cX6_takes 7 = .ok (.aload_n 0, 1) := by decide +kernel
theorem dX6_takes_8 : decode cX6_takes 8 = .ok (.dup, 1) := by decide +kernel
theorem dX6_takes_9 : decode cX6_takes 9 = .ok (.getfield 148, 3) := by decide +kernel
theorem dX6_takes_12 : decode cX6_takes 12 = .ok (.iload_n 2, 1) := by decide +kernel
theorem dX6_takes_13 : decode cX6_takes 13 = .ok (.invokestatic 36, 3) := by decide +kernel
theorem dX6_takes_16 : decode cX6_takes 16 = .ok (.iadd, 1) := by decide +kernel
theorem dX6_takes_17 : decode cX6_takes 17 = .ok (.putfield 148, 3) := by decide +kernel
theorem dX6_takes_20 : decode cX6_takes 20 = .ok (.iload_n 2, 1) := by decide +kernel
theorem dX6_takes_21 : decode cX6_takes 21 = .ok (.ireturn, 1) := by decide +kernel
set_option maxRecDepth 20000 in
theorem ggX6_readsFile_X6_isHere : GoodIn wsX6_readsFile wsX6_isHere := goodIn_r _ [8, 2, 9, 1, 10, 11, 7, 12, 16, 17, 18, 19, 20, 21, 22, 23, 24, 25] (by decide +kernel) (by decide +kernel)
set_option maxRecDepth 20000 in
theorem gX6_readsFile_X6_isHere : GoodIn wsX6_readsFile (wsV RX6 151 RX6 yX6_isHere wsX6_isHere) := goodIn_app (goodIn_of _ (by decide +kernel)) ggX6_readsFile_X6_isHere
set_option maxRecDepth 20000 in
theorem ggX6_readsFile_X6_flag : GoodIn wsX6_readsFile wsX6_flag := goodIn_r _ [15] (by decide +kernel) (by decide +kernel)
set_option maxRecDepth 20000 in
theorem gX6_readsFile_X6_flag : GoodIn wsX6_readsFile (va_wsS RX6 36 yX6_flag wsX6_flag) := goodIn_app (goodIn_of _ (by decide +kernel)) ggX6_readsFile_X6_flag
theorem dX6_readsFile_0 : decode cX6_readsFile 0 = .ok (.aload_n 0, 1) := by decide +kernel
theorem dX6_readsFile_1 : decode cX6_readsFile 1 = .ok (.aload_n 0, 1) := by decide +kernel
theorem dX6_readsFile_2 : decode cX6_readsFile 2 = .ok (.bipush 48, 2) := by decide +kernel
theorem dX6_readsFile_4 : decode cX6_readsFile 4 = .ok (.bipush 55, 2) := by decide +kernel
theorem dX6_readsFile_6 : decode cX6_readsFile 6 = .ok (.invokevirtual 151, 3) := by decide +kernel
theorem dX6_readsFile_9 : decode cX6_readsFile 9 = .ok (.ifCond .eq 18, 3) := by decide +kernel
theorem dX6_readsFile_12 : decode cX6_readsFile 12 = .ok (.aload_n 0, 1) := by decide +kernel
theorem dX6_readsFile_13 : decode cX6_readsFile 13 = .ok (.getfield 13, 3) := by decide +kernel
theorem dX6_readsFile_16 : decode cX6_readsFile 16 = .ok (.aload_n 0, 1) := by decide +kernel
theorem dX6_readsFile_17 : decode cX6_readsFile 17 = .ok (.getfield 148, 3) := by decide +kernel
theorem dX6_readsFile_20 : decode cX6_readsFile 20 = .ok (.iaload, 1) := by decide +kernel
theorem dX6_readsFile_21 : decode cX6_readsFile 21 = .ok (.bipush 48, 2) := by decide +kernel
theorem dX6_readsFile_23 : decode cX6_readsFile 23 = .ok (.isub, 1) := by decide +kernel
theorem dX6_readsFile_24 : decode cX6_readsFile 24 = .ok (.goto 5, 3) := by decide +kernel
theorem dX6_readsFile_27 : decode cX6_readsFile 27 = .ok (.bipush (-5), 2) := by decide +kernel
theorem dX6_readsFile_29 : decode cX6_readsFile 29 = .ok (.putfield 154, 3) := by decide +kernel
theorem dX6_readsFile_32 : decode cX6_readsFile 32 = .ok (.aload_n 0, 1) := by decide +kernel
theorem dX6_readsFile_33 : decode cX6_readsFile 33 = .ok (.dup, 1) := by decide +kernel
theorem dX6_readsFile_34 : decode cX6_readsFile 34 = .ok (.getfield 148, 3) := by decide +kernel
theorem dX6_readsFile_37 : decode cX6_readsFile 37 = .ok (.aload_n 0, 1) := by decide +kernel
theorem dX6_readsFile_38 : decode cX6_readsFile 38 = .ok (.getfield 154, 3) := by decide +kernel
theorem dX6_readsFile_41 : decode cX6_readsFile 41 = .ok (.bipush (-5), 2) := by decide +kernel
theorem dX6_readsFile_43 : decode cX6_readsFile 43 = .ok (.if_icmp .eq 7, 3) := by decide +kernel
theorem dX6_readsFile_46 : decode cX6_readsFile 46 = .ok (.iconst 1, 1) := by decide +kernel
theorem dX6_readsFile_47 : decode cX6_readsFile 47 = .ok (.goto 4, 3) := by decide +kernel
theorem dX6_readsFile_50 : decode cX6_readsFile 50 = .ok (.iconst 0, 1) := by decide +kernel
theorem dX6_readsFile_51 : decode cX6_readsFile 51 = .ok (.invokestatic 36, 3) := by decide +kernel
theorem dX6_readsFile_54 : decode cX6_readsFile 54 = .ok (.iadd, 1) := by decide +kernel
theorem dX6_readsFile_55 : decode cX6_readsFile 55 = .ok (.putfield 148, 3) := by decide +kernel
theorem dX6_readsFile_58 : decode cX6_readsFile 58 = .ok (.aload_n 0, 1) := by decide +kernel
theorem dX6_readsFile_59 : decode cX6_readsFile 59 = .ok (.getfield 154, 3) := by decide +kernel
theorem dX6_readsFile_62 : decode cX6_readsFile 62 = .ok (.bipush (-5), 2) := by decide +kernel
theorem dX6_readsFile_64 : decode cX6_readsFile 64 = .ok (.if_icmp .eq 7, 3) := by decide +kernel
theorem dX6_readsFile_67 : decode cX6_readsFile 67 = .ok (.iconst 1, 1) := by decide +kernel
theorem dX6_readsFile_68 : decode cX6_readsFile 68 = .ok (.goto 4, 3) := by decide +kernel
theorem dX6_readsFile_71 : decode cX6_readsFile 71 = .ok (.iconst 0, 1) := by decide +kernel
theorem dX6_readsFile_72 : decode cX6_readsFile 72 = .ok (.ireturn, 1) := by decide +kernel
set_option maxRecDepth 20000 in
theorem ggX6_number_X6_isHere : GoodIn wsX6_number wsX6_isHere := goodIn_r _ [7, 2, 8, 1, 9, 10, 6, 11, 12, 13, 14, 15, 16, 17, 18, 19, 20, 21] (by decide +kernel) (by decide +kernel)
set_option maxRecDepth 20000 in
theorem gX6_number_X6_isHere : GoodIn wsX6_number (wsV RX6 151 RX6 yX6_isHere wsX6_isHere) := goodIn_app (goodIn_of _ (by decide +kernel)) ggX6_number_X6_isHere
theorem dX6_number_0 : decode cX6_number 0 = .ok (.bipush (-5), 2) := by decide +kernel
theorem dX6_number_2 : decode cX6_number 2 = .ok (.istore_n 3, 1) := by decide +kernel
theorem dX6_number_3 : decode cX6_number 3 = .ok (.aload_n 0, 1) := by decide +kernel
theorem dX6_number_4 : decode cX6_number 4 = .ok (.iload_n 1, 1) := by decide +kernel
theorem dX6_number_5 : decode cX6_number 5 = .ok (.ifCond .ne 8, 3) := by decide +kernel
theorem dX6_number_8 : decode cX6_number 8 = .ok (.bipush 48, 2) := by decide +kernel
theorem dX6_number_10 : decode cX6_number 10 = .ok (.goto 5, 3) := by decide +kernel
theorem dX6_number_13 : decode cX6_number 13 = .ok (.bipush 49, 2) := by decide +kernel
theorem dX6_number_15 : decode cX6_number 15 = .ok (.bipush 57, 2) := by decide +kernel
theorem dX6_number_17 : decode cX6_number 17 = .ok (.invokevirtual 151, 3) := by decide +kernel
theorem dX6_number_20 : decode cX6_number 20 = .ok (.istore 4, 2) := by decide +kernel
theorem dX6_number_22 : decode cX6_number 22 = .ok (.iload 4, 2) := by decide +kernel
theorem dX6_number_24 : decode cX6_number 24 = .ok (.ifCond .eq 98, 3) := by decide +kernel
theorem dX6_number_27 : decode cX6_number 27 = .ok (.iload_n 3, 1) := by decide +kernel
theorem dX6_number_28 : decode cX6_number 28 = .ok (.bipush (-5), 2) := by decide +kernel
theorem dX6_number_30 : decode cX6_number 30 = .ok (.if_icmp .ne 18, 3) := by decide +kernel
theorem dX6_number_33 : decode cX6_number 33 = .ok (.aload_n 0, 1) := by decide +kernel
theorem dX6_number_34 : decode cX6_number 34 = .ok (.getfield 13, 3) := by decide +kernel
theorem dX6_number_37 : decode cX6_number 37 = .ok (.aload_n 0, 1) := by decide +kernel
theorem dX6_number_38 : decode cX6_number 38 = .ok (.getfield 148, 3) := by decide +kernel
theorem dX6_number_41 : decode cX6_number 41 = .ok (.iaload, 1) := by decide +kernel
theorem dX6_number_42 : decode cX6_number 42 = .ok (.bipush 48, 2) := by decide +kernel
theorem dX6_number_44 : decode cX6_number 44 = .ok (.isub, 1) := by decide +kernel
theorem dX6_number_45 : decode cX6_number 45 = .ok (.goto 20, 3) := by decide +kernel
theorem dX6_number_48 : decode cX6_number 48 = .ok (.bipush 10, 2) := by decide +kernel
theorem dX6_number_50 : decode cX6_number 50 = .ok (.iload_n 3, 1) := by decide +kernel
theorem dX6_number_51 : decode cX6_number 51 = .ok (.imul, 1) := by decide +kernel
theorem dX6_number_52 : decode cX6_number 52 = .ok (.aload_n 0, 1) := by decide +kernel
theorem dX6_number_53 : decode cX6_number 53 = .ok (.getfield 13, 3) := by decide +kernel
theorem dX6_number_56 : decode cX6_number 56 = .ok (.aload_n 0, 1) := by decide +kernel
theorem dX6_number_57 : decode cX6_number 57 = .ok (.getfield 148, 3) := by decide +kernel
theorem dX6_number_60 : decode cX6_number 60 = .ok (.iaload, 1) := by decide +kernel
theorem dX6_number_61 : decode cX6_number 61 = .ok (.iadd, 1) := by decide +kernel
theorem dX6_number_62 : decode cX6_number 62 = .ok (.bipush 48, 2) := by decide +kernel
theorem dX6_number_64 : decode cX6_number 64 = .ok (.isub, 1) := by decide +kernel
theorem dX6_number_65 : decode cX6_number 65 = .ok (.istore_n 3, 1) := by decide +kernel
theorem dX6_number_66 : decode cX6_number 66 = .ok (.aload_n 0, 1) := by decide +kernel
theorem dX6_number_67 : decode cX6_number 67 = .ok (.dup, 1) := by decide +kernel
theorem dX6_number_68 : decode cX6_number 68 = .ok (.getfield 148, 3) := by decide +kernel
theorem dX6_number_71 : decode cX6_number 71 = .ok (.iconst 1, 1) := by decide +kernel
theorem dX6_number_72 : decode cX6_number 72 = .ok (.iadd, 1) := by decide +kernel
theorem dX6_number_73 : decode cX6_number 73 = .ok (.putfield 148, 3) := by decide +kernel
theorem dX6_number_76 : decode cX6_number 76 = .ok (.iload_n 3, 1) := by decide +kernel
theorem dX6_number_77 : decode cX6_number 77 = .ok (.ifCond .le 39, 3) := by decide +kernel
theorem dX6_number_80 : decode cX6_number 80 = .ok (.aload_n 0, 1) := by decide +kernel
theorem dX6_number_81 : decode cX6_number 81 = .ok (.bipush 48, 2) := by decide +kernel
theorem dX6_number_83 : decode cX6_number 83 = .ok (.bipush 57, 2) := by decide +kernel
theorem dX6_number_85 : decode cX6_number 85 = .ok (.invokevirtual 151, 3) := by decide +kernel
theorem dX6_number_88 : decode cX6_number 88 = .ok (.ifCond .eq 28, 3) := by decide +kernel
theorem dX6_number_91 : decode cX6_number 91 = .ok (.bipush 10, 2) := by decide +kernel
theorem dX6_number_93 : decode cX6_number 93 = .ok (.iload_n 3, 1) := by decide +kernel
theorem dX6_number_94 : decode cX6_number 94 = .ok (.imul, 1) := by decide +kernel
theorem dX6_number_95 : decode cX6_number 95 = .ok (.aload_n 0, 1) := by decide +kernel
theorem dX6_number_96 : decode cX6_number 96 = .ok (.getfield 13, 3) := by decide +kernel
theorem dX6_number_99 : decode cX6_number 99 = .ok (.aload_n 0, 1) := by decide +kernel
theorem dX6_number_100 : decode cX6_number 100 = .ok (.getfield 148, 3) := by decide +kernel
theorem dX6_number_103 : decode cX6_number 103 = .ok (.iaload, 1) := by decide +kernel
theorem dX6_number_104 : decode cX6_number 104 = .ok (.iadd, 1) := by decide +kernel
theorem dX6_number_105 : decode cX6_number 105 = .ok (.bipush 48, 2) := by decide +kernel
theorem dX6_number_107 : decode cX6_number 107 = .ok (.isub, 1) := by decide +kernel
theorem dX6_number_108 : decode cX6_number 108 = .ok (.iload_n 2, 1) := by decide +kernel
theorem dX6_number_109 : decode cX6_number 109 = .ok (.if_icmp .gt 7, 3) := by decide +kernel
theorem dX6_number_112 : decode cX6_number 112 = .ok (.iconst 1, 1) := by decide +kernel
theorem dX6_number_113 : decode cX6_number 113 = .ok (.goto 4, 3) := by decide +kernel
theorem dX6_number_116 : decode cX6_number 116 = .ok (.iconst 0, 1) := by decide +kernel
theorem dX6_number_117 : decode cX6_number 117 = .ok (.istore 4, 2) := by decide +kernel
theorem dX6_number_119 : decode cX6_number 119 = .ok (.goto (-97), 3) := by decide +kernel
theorem dX6_number_122 : decode cX6_number 122 = .ok (.iload_n 3, 1) := by decide +kernel
theorem dX6_number_123 : decode cX6_number 123 = .ok (.ireturn, 1) := by decide +kernel
set_option maxRecDepth 20000 in
theorem ggX6_readsAppend_X6_readsFile : GoodIn wsX6_readsAppend wsX6_readsFile := goodIn_r _ [7, 8, 9, 10, 11, 12, 13, 6, 14, 15, 16, 17, 18, 19, 20, 21, 30, 31, 32, 33, 34, 35, 36, 37, 38, 39] (by decide +kernel) (by decide +kernel)
set_option maxRecDepth 20000 in
theorem gX6_readsAppend_X6_readsFile : GoodIn wsX6_readsAppend (wsV RX6 157 RX6 yX6_readsFile wsX6_readsFile) := goodIn_app (goodIn_of _ (by decide +kernel)) ggX6_readsAppend_X6_readsFile
set_option maxRecDepth 20000 in
theorem ggX6_readsAppend_X6_takes : GoodIn wsX6_readsAppend wsX6_takes := goodIn_r _ [25, 9, 11, 12, 13, 6, 14, 15, 8, 16, 17, 18, 19, 20, 21, 30, 31, 32, 33, 34, 35, 36, 37, 38, 39] (by decide +kernel) (by decide +kernel)
set_option maxRecDepth 20000 in
theorem gX6_readsAppend_X6_takes : GoodIn wsX6_readsAppend (wsV RX6 161 RX6 yX6_takes wsX6_takes) := goodIn_app (goodIn_of _ (by decide +kernel)) ggX6_readsAppend_X6_takes
set_option maxRecDepth 20000 in
theorem ggX6_readsAppend_X6_number : GoodIn wsX6_readsAppend wsX6_number := goodIn_r _ [29, 8, 9, 11, 12, 13, 6, 14, 15, 16, 17, 18, 30, 31, 32, 33, 34, 35, 36, 37, 38, 39] (by decide +kernel) (by decide +kernel)
set_option maxRecDepth 20000 in
theorem gX6_readsAppend_X6_number : GoodIn wsX6_readsAppend (wsV RX6 164 RX6 yX6_number wsX6_number) := goodIn_app (goodIn_of _ (by decide +kernel)) ggX6_readsAppend_X6_number
theorem dX6_readsAppend_0 : decode cX6_readsAppend 0 = .ok (.aload_n 0, 1) := by decide +kernel
theorem dX6_readsAppend_1 : decode cX6_readsAppend 1 = .ok (.invokevirtual 157, 3) := by decide +kernel
theorem dX6_readsAppend_4 : decode cX6_readsAppend 4 = .ok (.ifCond .eq 12, 3) := by decide +kernel
theorem dX6_readsAppend_7 : decode cX6_readsAppend 7 = .ok (.aload_n 0, 1) := by decide +kernel
theorem dX6_readsAppend_8 : decode cX6_readsAppend 8 = .ok (.bipush 58, 2) := by decide +kernel
theorem dX6_readsAppend_10 : decode cX6_readsAppend 10 = .ok (.invokevirtual 161, 3) := by decide +kernel
theorem dX6_readsAppend_13 : decode cX6_readsAppend 13 = .ok (.ifCond .ne 5, 3) := by decide +kernel
theorem dX6_readsAppend_16 : decode cX6_readsAppend 16 = .ok (.iconst 0, 1) := by decide +kernel
theorem dX6_readsAppend_17 : decode cX6_readsAppend 17 = .ok (.ireturn, 1) := by decide +kernel
theorem dX6_readsAppend_18 : decode cX6_readsAppend 18 = .ok (.aload_n 0, 1) := by decide +kernel
theorem dX6_readsAppend_19 : decode cX6_readsAppend 19 = .ok (.aload_n 0, 1) := by decide +kernel
theorem dX6_readsAppend_20 : decode cX6_readsAppend 20 = .ok (.iconst 1, 1) := by decide +kernel
theorem dX6_readsAppend_21 : decode cX6_readsAppend 21 = .ok (.bipush 64, 2) := by decide +kernel
theorem dX6_readsAppend_23 : decode cX6_readsAppend 23 = .ok (.invokevirtual 164, 3) := by decide +kernel
theorem dX6_readsAppend_26 : decode cX6_readsAppend 26 = .ok (.putfield 167, 3) := by decide +kernel
theorem dX6_readsAppend_29 : decode cX6_readsAppend 29 = .ok (.aload_n 0, 1) := by decide +kernel
theorem dX6_readsAppend_30 : decode cX6_readsAppend 30 = .ok (.aload_n 0, 1) := by decide +kernel
theorem dX6_readsAppend_31 : decode cX6_readsAppend 31 = .ok (.getfield 167, 3) := by decide +kernel
theorem dX6_readsAppend_34 : decode cX6_readsAppend 34 = .ok (.bipush (-5), 2) := by decide +kernel
theorem dX6_readsAppend_36 : decode cX6_readsAppend 36 = .ok (.if_icmp .eq 22, 3) := by decide +kernel
theorem dX6_readsAppend_39 : decode cX6_readsAppend 39 = .ok (.aload_n 0, 1) := by decide +kernel
theorem dX6_readsAppend_40 : decode cX6_readsAppend 40 = .ok (.bipush 61, 2) := by decide +kernel
theorem dX6_readsAppend_42 : decode cX6_readsAppend 42 = .ok (.invokevirtual 161, 3) := by decide +kernel
theorem dX6_readsAppend_45 : decode cX6_readsAppend 45 = .ok (.ifCond .eq 13, 3) := by decide +kernel
theorem dX6_readsAppend_48 : decode cX6_readsAppend 48 = .ok (.aload_n 0, 1) := by decide +kernel
theorem dX6_readsAppend_49 : decode cX6_readsAppend 49 = .ok (.iconst 0, 1) := by decide +kernel
theorem dX6_readsAppend_50 : decode cX6_readsAppend 50 = .ok (.bipush 99, 2) := by decide +kernel
theorem dX6_readsAppend_52 : decode cX6_readsAppend 52 = .ok (.invokevirtual 164, 3) := by decide +kernel
theorem dX6_readsAppend_55 : decode cX6_readsAppend 55 = .ok (.goto 5, 3) := by decide +kernel
theorem dX6_readsAppend_58 : decode cX6_readsAppend 58 = .ok (.bipush (-5), 2) := by decide +kernel
theorem dX6_readsAppend_60 : decode cX6_readsAppend 60 = .ok (.putfield 170, 3) := by decide +kernel
theorem dX6_readsAppend_63 : decode cX6_readsAppend 63 = .ok (.aload_n 0, 1) := by decide +kernel
theorem dX6_readsAppend_64 : decode cX6_readsAppend 64 = .ok (.getfield 170, 3) := by decide +kernel
theorem dX6_readsAppend_67 : decode cX6_readsAppend 67 = .ok (.bipush (-5), 2) := by decide +kernel
theorem dX6_readsAppend_69 : decode cX6_readsAppend 69 = .ok (.if_icmp .eq 7, 3) := by decide +kernel
theorem dX6_readsAppend_72 : decode cX6_readsAppend 72 = .ok (.iconst 1, 1) := by decide +kernel
theorem dX6_readsAppend_73 : decode cX6_readsAppend 73 = .ok (.goto 4, 3) := by decide +kernel
theorem dX6_readsAppend_76 : decode cX6_readsAppend 76 = .ok (.iconst 0, 1) := by decide +kernel
theorem dX6_readsAppend_77 : decode cX6_readsAppend 77 = .ok (.ireturn, 1) := by decide +kernel
set_option maxRecDepth 20000 in
theorem ggX6_readsCut_X6_readsFile : GoodIn wsX6_readsCut wsX6_readsFile := goodIn_r _ [6, 7, 8, 9, 10, 11, 12, 5, 13, 14, 15, 16, 17, 18, 19, 20, 29, 30, 31, 32, 33, 34, 35, 36, 37, 38] (by decide +kernel) (by decide +kernel)
set_option maxRecDepth 20000 in
theorem gX6_readsCut_X6_readsFile : GoodIn wsX6_readsCut (wsV RX6 157 RX6 yX6_readsFile wsX6_readsFile) := goodIn_app (goodIn_of _ (by decide +kernel)) ggX6_readsCut_X6_readsFile
set_option maxRecDepth 20000 in
theorem ggX6_readsCut_X6_takes : GoodIn wsX6_readsCut wsX6_takes := goodIn_r _ [24, 8, 10, 11, 12, 5, 13, 14, 7, 15, 16, 17, 18, 19, 20, 29, 30, 31, 32, 33, 34, 35, 36, 37, 38] (by decide +kernel) (by decide +kernel)
set_option maxRecDepth 20000 in
theorem gX6_readsCut_X6_takes : GoodIn wsX6_readsCut (wsV RX6 161 RX6 yX6_takes wsX6_takes) := goodIn_app (goodIn_of _ (by decide +kernel)) ggX6_readsCut_X6_takes
set_option maxRecDepth 20000 in
theorem ggX6_readsCut_X6_number : GoodIn wsX6_readsCut wsX6_number := goodIn_r _ [28, 7, 8, 10, 11, 12, 5, 13, 14, 15, 16, 17, 29, 30, 31, 32, 33, 34, 35, 36, 37, 38] (by decide +kernel) (by decide +kernel)
set_option maxRecDepth 20000 in
theorem gX6_readsCut_X6_number : GoodIn wsX6_readsCut (wsV RX6 164 RX6 yX6_number wsX6_number) := goodIn_app (goodIn_of _ (by decide +kernel)) ggX6_readsCut_X6_number
theorem dX6_readsCut_0 : decode cX6_readsCut 0 = .ok (.aload_n 0, 1) := by decide +kernel
theorem dX6_readsCut_1 : decode cX6_readsCut 1 = .ok (.aload_n 0, 1) := by decide +kernel
theorem dX6_readsCut_2 : decode cX6_readsCut 2 = .ok (.invokevirtual 157, 3) := by decide +kernel
theorem dX6_readsCut_5 : decode cX6_readsCut 5 = .ok (.ifCond .eq 22, 3) := by decide +kernel
theorem dX6_readsCut_8 : decode cX6_readsCut 8 = .ok (.aload_n 0, 1) := by decide +kernel
theorem dX6_readsCut_9 : decode cX6_readsCut 9 = .ok (.bipush 58, 2) := by decide +kernel
theorem dX6_readsCut_11 : decode cX6_readsCut 11 = .ok (.invokevirtual 161, 3) := by decide +kernel
theorem dX6_readsCut_14 : decode cX6_readsCut 14 = .ok (.ifCond .eq 13, 3) := by decide +kernel
theorem dX6_readsCut_17 : decode cX6_readsCut 17 = .ok (.aload_n 0, 1) := by decide +kernel
theorem dX6_readsCut_18 : decode cX6_readsCut 18 = .ok (.iconst 0, 1) := by decide +kernel
theorem dX6_readsCut_19 : decode cX6_readsCut 19 = .ok (.bipush 64, 2) := by decide +kernel
theorem dX6_readsCut_21 : decode cX6_readsCut 21 = .ok (.invokevirtual 164, 3) := by decide +kernel
theorem dX6_readsCut_24 : decode cX6_readsCut 24 = .ok (.goto 5, 3) := by decide +kernel
theorem dX6_readsCut_27 : decode cX6_readsCut 27 = .ok (.bipush (-5), 2) := by decide +kernel
theorem dX6_readsCut_29 : decode cX6_readsCut 29 = .ok (.putfield 167, 3) := by decide +kernel
theorem dX6_readsCut_32 : decode cX6_readsCut 32 = .ok (.aload_n 0, 1) := by decide +kernel
theorem dX6_readsCut_33 : decode cX6_readsCut 33 = .ok (.getfield 167, 3) := by decide +kernel
theorem dX6_readsCut_36 : decode cX6_readsCut 36 = .ok (.bipush (-5), 2) := by decide +kernel
theorem dX6_readsCut_38 : decode cX6_readsCut 38 = .ok (.if_icmp .eq 7, 3) := by decide +kernel
theorem dX6_readsCut_41 : decode cX6_readsCut 41 = .ok (.iconst 1, 1) := by decide +kernel
theorem dX6_readsCut_42 : decode cX6_readsCut 42 = .ok (.goto 4, 3) := by decide +kernel
theorem dX6_readsCut_45 : decode cX6_readsCut 45 = .ok (.iconst 0, 1) := by decide +kernel
theorem dX6_readsCut_46 : decode cX6_readsCut 46 = .ok (.ireturn, 1) := by decide +kernel
set_option maxRecDepth 20000 in
theorem ggX6_readsOrder_X6_readsFile : GoodIn wsX6_readsOrder wsX6_readsFile := goodIn_r _ [9, 3, 1, 10, 11, 12, 13, 8, 14, 2, 15, 16, 17, 18, 19, 20, 39, 40, 41, 42, 43, 44, 45, 46, 47, 48] (by decide +kernel) (by decide +kernel)
set_option maxRecDepth 20000 in
theorem gX6_readsOrder_X6_readsFile : GoodIn wsX6_readsOrder (wsV RX6 157 RX6 yX6_readsFile wsX6_readsFile) := goodIn_app (goodIn_of _ (by decide +kernel)) ggX6_readsOrder_X6_readsFile
set_option maxRecDepth 20000 in
theorem ggX6_readsOrder_X6_readsAppend : GoodIn wsX6_readsOrder wsX6_readsAppend := goodIn_r _ [24, 25, 26, 5, 6, 7, 8, 9, 3, 1, 10, 11, 12, 13, 14, 2, 15, 16, 17, 18, 19, 20, 27, 28, 29, 30, 31, 32, 33, 34, 39, 40, 41, 42, 43, 44, 45, 46, 47, 48] (by decide +kernel) (by decide +kernel)
set_option maxRecDepth 20000 in
theorem gX6_readsOrder_X6_readsAppend : GoodIn wsX6_readsOrder (wsV RX6 176 RX6 yX6_readsAppend wsX6_readsAppend) := goodIn_app (goodIn_of _ (by decide +kernel)) ggX6_readsOrder_X6_readsAppend
set_option maxRecDepth 20000 in
theorem ggX6_readsOrder_X6_readsCut : GoodIn wsX6_readsOrder wsX6_readsCut := goodIn_r _ [38, 25, 5, 6, 7, 8, 9, 3, 1, 10, 11, 12, 13, 14, 2, 15, 16, 17, 18, 19, 20, 27, 28, 29, 30, 31, 32, 33, 34, 39, 40, 41, 42, 43, 44, 45, 46, 47, 48] (by decide +kernel) (by decide +kernel)
set_option maxRecDepth 20000 in
theorem gX6_readsOrder_X6_readsCut : GoodIn wsX6_readsOrder (wsV RX6 179 RX6 yX6_readsCut wsX6_readsCut) := goodIn_app (goodIn_of _ (by decide +kernel)) ggX6_readsOrder_X6_readsCut
theorem dX6_readsOrder_0 : decode cX6_readsOrder 0 = .ok (.aload_n 0, 1) := by decide +kernel
theorem dX6_readsOrder_1 : decode cX6_readsOrder 1 = .ok (.aload_n 0, 1) := by decide +kernel
theorem dX6_readsOrder_2 : decode cX6_readsOrder 2 = .ok (.getfield 148, 3) := by decide +kernel
theorem dX6_readsOrder_5 : decode cX6_readsOrder 5 = .ok (.aload_n 0, 1) := by decide +kernel
theorem dX6_readsOrder_6 : decode cX6_readsOrder 6 = .ok (.getfield 145, 3) := by decide +kernel
theorem dX6_readsOrder_9 : decode cX6_readsOrder 9 = .ok (.if_icmp .ge 15, 3) := by decide +kernel
theorem dX6_readsOrder_12 : decode cX6_readsOrder 12 = .ok (.aload_n 0, 1) := by decide +kernel
theorem dX6_readsOrder_13 : decode cX6_readsOrder 13 = .ok (.getfield 13, 3) := by decide +kernel
theorem dX6_readsOrder_16 : decode cX6_readsOrder 16 = .ok (.aload_n 0, 1) := by decide +kernel
theorem dX6_readsOrder_17 : decode cX6_readsOrder 17 = .ok (.getfield 148, 3) := by decide +kernel
theorem dX6_readsOrder_20 : decode cX6_readsOrder 20 = .ok (.iaload, 1) := by decide +kernel
theorem dX6_readsOrder_21 : decode cX6_readsOrder 21 = .ok (.goto 4, 3) := by decide +kernel
theorem dX6_readsOrder_24 : decode cX6_readsOrder 24 = .ok (.iconst 0, 1) := by decide +kernel
theorem dX6_readsOrder_25 : decode cX6_readsOrder 25 = .ok (.putfield 173, 3) := by decide +kernel
theorem dX6_readsOrder_28 : decode cX6_readsOrder 28 = .ok (.aload_n 0, 1) := by decide +kernel
theorem dX6_readsOrder_29 : decode cX6_readsOrder 29 = .ok (.dup, 1) := by decide +kernel
theorem dX6_readsOrder_30 : decode cX6_readsOrder 30 = .ok (.getfield 148, 3) := by decide +kernel
theorem dX6_readsOrder_33 : decode cX6_readsOrder 33 = .ok (.iconst 1, 1) := by decide +kernel
theorem dX6_readsOrder_34 : decode cX6_readsOrder 34 = .ok (.iadd, 1) := by decide +kernel
theorem dX6_readsOrder_35 : decode cX6_readsOrder 35 = .ok (.putfield 148, 3) := by decide +kernel
theorem dX6_readsOrder_38 : decode cX6_readsOrder 38 = .ok (.aload_n 0, 1) := by decide +kernel
theorem dX6_readsOrder_39 : decode cX6_readsOrder 39 = .ok (.getfield 173, 3) := by decide +kernel
theorem dX6_readsOrder_42 : decode cX6_readsOrder 42 = .ok (.lookupswitch 99 #[(33, 82), (97, 89), (100, 84), (109, 82), (110, 82), (111, 84), (115, 84), (116, 94), (120, 84)], 82) := by decide +kernel
theorem dX6_readsOrder_124 : decode cX6_readsOrder 124 = .ok (.iconst 1, 1) := by decide +kernel
theorem dX6_readsOrder_125 : decode cX6_readsOrder 125 = .ok (.ireturn, 1) := by decide +kernel
theorem dX6_readsOrder_126 : decode cX6_readsOrder 126 = .ok (.aload_n 0, 1) := by decide +kernel
theorem dX6_readsOrder_127 : decode cX6_readsOrder 127 = .ok (.invokevirtual 157, 3) := by decide +kernel
theorem dX6_readsOrder_130 : decode cX6_readsOrder 130 = .ok (.ireturn, 1) := by decide +kernel
theorem dX6_readsOrder_131 : decode cX6_readsOrder 131 = .ok (.aload_n 0, 1) := by decide +kernel
theorem dX6_readsOrder_132 : decode cX6_readsOrder 132 = .ok (.invokevirtual 176, 3) := by decide +kernel
theorem dX6_readsOrder_135 : decode cX6_readsOrder 135 = .ok (.ireturn, 1) := by decide +kernel
theorem dX6_readsOrder_136 : decode cX6_readsOrder 136 = .ok (.aload_n 0, 1) := by decide +kernel
theorem dX6_readsOrder_137 : decode cX6_readsOrder 137 = .ok (.invokevirtual 179, 3) := by decide +kernel
theorem dX6_readsOrder_140 : decode cX6_readsOrder 140 = .ok (.ireturn, 1) := by decide +kernel
theorem dX6_readsOrder_141 : decode cX6_readsOrder 141 = .ok (.aload_n 0, 1) := by decide +kernel
theorem dX6_readsOrder_142 : decode cX6_readsOrder 142 = .ok (.dup, 1) := by decide +kernel
theorem dX6_readsOrder_143 : decode cX6_readsOrder 143 = .ok (.getfield 148, 3) := by decide +kernel
theorem dX6_readsOrder_146 : decode cX6_readsOrder 146 = .ok (.iconst 1, 1) := by decide +kernel
theorem dX6_readsOrder_147 : decode cX6_readsOrder 147 = .ok (.isub, 1) := by decide +kernel
theorem dX6_readsOrder_148 : decode cX6_readsOrder 148 = .ok (.putfield 148, 3) := by decide +kernel
theorem dX6_readsOrder_151 : decode cX6_readsOrder 151 = .ok (.iconst 0, 1) := by decide +kernel
theorem dX6_readsOrder_152 : decode cX6_readsOrder 152 = .ok (.ireturn, 1) := by decide +kernel
set_option maxRecDepth 20000 in
theorem ggX6_fault_X6_readsOrder : GoodIn wsX6_fault wsX6_readsOrder := goodIn_r _ [7, 1, 2, 8, 9, 10, 11, 12, 6, 13, 14, 15, 16, 17, 18, 19, 20, 21, 22, 23, 24, 25, 26, 27, 28, 29, 30, 31, 32, 33, 34, 35, 36, 37, 38, 39, 40, 41, 42, 43, 44, 45, 46, 47, 48, 49, 50, 51, 52] (by decide +kernel) (by decide +kernel)
set_option maxRecDepth 20000 in
theorem gX6_fault_X6_readsOrder : GoodIn wsX6_fault (wsV RX6 182 RX6 yX6_readsOrder wsX6_readsOrder) := goodIn_app (goodIn_of _ (by decide +kernel)) ggX6_fault_X6_readsOrder
set_option maxRecDepth 20000 in
theorem ggX6_fault_X6_takes : GoodIn wsX6_fault wsX6_takes := goodIn_r _ [34, 1, 15, 16, 17, 6, 18, 2, 8, 19, 20, 21, 22, 23, 24, 43, 44, 45, 46, 47, 48, 49, 50, 51, 52] (by decide +kernel) (by decide +kernel)
set_option maxRecDepth 20000 in
theorem gX6_fault_X6_takes : GoodIn wsX6_fault (wsV RX6 161 RX6 yX6_takes wsX6_takes) := goodIn_app (goodIn_of _ (by decide +kernel)) ggX6_fault_X6_takes
theorem dX6_fault_0 : decode cX6_fault 0 = .ok (.aload_n 0, 1) := by decide +kernel
theorem dX6_fault_1 : decode cX6_fault 1 = .ok (.iconst 0, 1) := by decide +kernel
theorem dX6_fault_2 : decode cX6_fault 2 = .ok (.putfield 148, 3) := by decide +kernel
theorem dX6_fault_5 : decode cX6_fault 5 = .ok (.iconst 1, 1) := by decide +kernel
theorem dX6_fault_6 : decode cX6_fault 6 = .ok (.istore_n 1, 1) := by decide +kernel
theorem dX6_fault_7 : decode cX6_fault 7 = .ok (.iload_n 1, 1) := by decide +kernel
theorem dX6_fault_8 : decode cX6_fault 8 = .ok (.ifCond .eq 25, 3) := by decide +kernel
theorem dX6_fault_11 : decode cX6_fault 11 = .ok (.aload_n 0, 1) := by decide +kernel
theorem dX6_fault_12 : decode cX6_fault 12 = .ok (.invokevirtual 182, 3) := by decide +kernel
theorem dX6_fault_15 : decode cX6_fault 15 = .ok (.ifCond .ne 8, 3) := by decide +kernel
theorem dX6_fault_18 : decode cX6_fault 18 = .ok (.aload_n 0, 1) := by decide +kernel
theorem dX6_fault_19 : decode cX6_fault 19 = .ok (.getfield 148, 3) := by decide +kernel
theorem dX6_fault_22 : decode cX6_fault 22 = .ok (.ireturn, 1) := by decide +kernel
theorem dX6_fault_23 : decode cX6_fault 23 = .ok (.aload_n 0, 1) := by decide +kernel
theorem dX6_fault_24 : decode cX6_fault 24 = .ok (.bipush 59, 2) := by decide +kernel
theorem dX6_fault_26 : decode cX6_fault 26 = .ok (.invokevirtual 161, 3) := by decide +kernel
theorem dX6_fault_29 : decode cX6_fault 29 = .ok (.istore_n 1, 1) := by decide +kernel
theorem dX6_fault_30 : decode cX6_fault 30 = .ok (.goto (-23), 3) := by decide +kernel
theorem dX6_fault_33 : decode cX6_fault 33 = .ok (.aload_n 0, 1) := by decide +kernel
theorem dX6_fault_34 : decode cX6_fault 34 = .ok (.getfield 148, 3) := by decide +kernel
theorem dX6_fault_37 : decode cX6_fault 37 = .ok (.aload_n 0, 1) := by decide +kernel
theorem dX6_fault_38 : decode cX6_fault 38 = .ok (.getfield 145, 3) := by decide +kernel
theorem dX6_fault_41 : decode cX6_fault 41 = .ok (.if_icmp .ne 8, 3) := by decide +kernel
theorem dX6_fault_44 : decode cX6_fault 44 = .ok (.bipush (-5), 2) := by decide +kernel
theorem dX6_fault_46 : decode cX6_fault 46 = .ok (.goto 7, 3) := by decide +kernel
theorem dX6_fault_49 : decode cX6_fault 49 = .ok (.aload_n 0, 1) := by decide +kernel
theorem dX6_fault_50 : decode cX6_fault 50 = .ok (.getfield 148, 3) := by decide +kernel
theorem dX6_fault_53 : decode cX6_fault 53 = .ok (.ireturn, 1) := by decide +kernel
set_option maxRecDepth 20000 in
theorem ggX6_orderError_X6_createError : GoodIn wsX6_orderError wsX6_createError := goodIn_r _ [9, 10, 11, 12, 8, 13, 14, 15, 16, 17, 68, 69, 70, 71, 72, 73, 74, 75, 76, 77] (by decide +kernel) (by decide +kernel)
set_option maxRecDepth 20000 in
theorem gX6_orderError_X6_createError : GoodIn wsX6_orderError (wsV RX6 100 RX6 yX6_createError wsX6_createError) := goodIn_app (goodIn_of _ (by decide +kernel)) ggX6_orderError_X6_createError
set_option maxRecDepth 20000 in
theorem ggX6_orderError_X6_openError : GoodIn wsX6_orderError wsX6_openError := goodIn_r _ [21, 22, 23, 24, 8, 25, 14, 26, 27, 28, 15, 16, 17, 29, 30, 31, 32, 68, 69, 70, 71, 72, 73, 74, 75, 76, 77] (by decide +kernel) (by decide +kernel)
set_option maxRecDepth 20000 in
theorem gX6_orderError_X6_openError : GoodIn wsX6_orderError (wsV RX6 109 RX6 yX6_openError wsX6_openError) := goodIn_app (goodIn_of _ (by decide +kernel)) ggX6_orderError_X6_openError
set_option maxRecDepth 20000 in
theorem ggX6_orderError_X6_closeError : GoodIn wsX6_orderError wsX6_closeError := goodIn_r _ [36, 22, 23, 24, 8, 25, 14, 26, 27, 28, 15, 16, 17, 29, 30, 31, 32, 68, 69, 70, 71, 72, 73, 74, 75, 76, 77] (by decide +kernel) (by decide +kernel)
set_option maxRecDepth 20000 in
theorem gX6_orderError_X6_closeError : GoodIn wsX6_orderError (wsV RX6 115 RX6 yX6_closeError wsX6_closeError) := goodIn_app (goodIn_of _ (by decide +kernel)) ggX6_orderError_X6_closeError
set_option maxRecDepth 20000 in
theorem ggX6_orderError_X6_appendError : GoodIn wsX6_orderError wsX6_appendError := goodIn_r _ [40, 22, 23, 24, 8, 25, 14, 26, 27, 28, 15, 16, 17, 29, 30, 31, 32, 41, 42, 43, 44, 45, 46, 47, 48, 49, 50, 51, 52, 53, 54, 55, 56, 57, 58, 59, 60, 61, 62, 63, 68, 69, 70, 71, 72, 73, 74, 75, 76, 77] (by decide +kernel) (by decide +kernel)
set_option maxRecDepth 20000 in
theorem gX6_orderError_X6_appendError : GoodIn wsX6_orderError (wsV RX6 127 RX6 yX6_appendError wsX6_appendError) := goodIn_app (goodIn_of _ (by decide +kernel)) ggX6_orderError_X6_appendError
set_option maxRecDepth 20000 in
theorem ggX6_orderError_X6_cutError : GoodIn wsX6_orderError wsX6_cutError := goodIn_r _ [67, 14, 22, 23, 24, 8, 25, 26, 27, 28, 15, 16, 17, 29, 30, 31, 32, 68, 69, 70, 71, 72, 73, 74, 75, 76, 77] (by decide +kernel) (by decide +kernel)
set_option maxRecDepth 20000 in
theorem gX6_orderError_X6_cutError : GoodIn wsX6_orderError (wsV RX6 133 RX6 yX6_cutError wsX6_cutError) := goodIn_app (goodIn_of _ (by decide +kernel)) ggX6_orderError_X6_cutError
theorem dX6_orderError_0 : decode cX6_orderError 0 = .ok (.aload_n 0, 1) := by decide +kernel
theorem dX6_orderError_1 : decode cX6_orderError 1 = .ok (.getfield 173, 3) := by decide +kernel
theorem dX6_orderError_4 : decode cX6_orderError 4 = .ok (.tableswitch 165 97 120 #[135, 165, 165, 117, 165, 165, 165, 165, 165, 165, 165, 165, 165, 112, 117, 165, 165, 165, 126, 152, 165, 165, 165, 126], 112) := by decide +kernel
theorem dX6_orderError_116 : decode cX6_orderError 116 = .ok (.aload_n 0, 1) := by decide +kernel
theorem dX6_orderError_117 : decode cX6_orderError 117 = .ok (.invokevirtual 100, 3) := by decide +kernel
theorem dX6_orderError_120 : decode cX6_orderError 120 = .ok (.ireturn, 1) := by decide +kernel
theorem dX6_orderError_121 : decode cX6_orderError 121 = .ok (.aload_n 0, 1) := by decide +kernel
theorem dX6_orderError_122 : decode cX6_orderError 122 = .ok (.aload_n 0, 1) := by decide +kernel
theorem dX6_orderError_123 : decode cX6_orderError 123 = .ok (.getfield 154, 3) := by decide +kernel
theorem dX6_orderError_126 : decode cX6_orderError 126 = .ok (.invokevirtual 109, 3) := by decide +kernel
theorem dX6_orderError_129 : decode cX6_orderError 129 = .ok (.ireturn, 1) := by decide +kernel
theorem dX6_orderError_130 : decode cX6_orderError 130 = .ok (.aload_n 0, 1) := by decide +kernel
theorem dX6_orderError_131 : decode cX6_orderError 131 = .ok (.aload_n 0, 1) := by decide +kernel
theorem dX6_orderError_132 : decode cX6_orderError 132 = .ok (.getfield 154, 3) := by decide +kernel
theorem dX6_orderError_135 : decode cX6_orderError 135 = .ok (.invokevirtual 115, 3) := by decide +kernel
theorem dX6_orderError_138 : decode cX6_orderError 138 = .ok (.ireturn, 1) := by decide +kernel
theorem dX6_orderError_139 : decode cX6_orderError 139 = .ok (.aload_n 0, 1) := by decide +kernel
theorem dX6_orderError_140 : decode cX6_orderError 140 = .ok (.aload_n 0, 1) := by decide +kernel
theorem dX6_orderError_141 : decode cX6_orderError 141 = .ok (.getfield 154, 3) := by decide +kernel
theorem dX6_orderError_144 : decode cX6_orderError 144 = .ok (.aload_n 0, 1) := by decide +kernel
theorem dX6_orderError_145 : decode cX6_orderError 145 = .ok (.getfield 167, 3) := by decide +kernel
theorem dX6_orderError_148 : decode cX6_orderError 148 = .ok (.aload_n 0, 1) := by decide +kernel
theorem dX6_orderError_149 : decode cX6_orderError 149 = .ok (.getfield 170, 3) := by decide +kernel
theorem dX6_orderError_152 : decode cX6_orderError 152 = .ok (.invokevirtual 127, 3) := by decide +kernel
theorem dX6_orderError_155 : decode cX6_orderError 155 = .ok (.ireturn, 1) := by decide +kernel
theorem dX6_orderError_156 : decode cX6_orderError 156 = .ok (.aload_n 0, 1) := by decide +kernel
theorem dX6_orderError_157 : decode cX6_orderError 157 = .ok (.aload_n 0, 1) := by decide +kernel
theorem dX6_orderError_158 : decode cX6_orderError 158 = .ok (.getfield 154, 3) := by decide +kernel
theorem dX6_orderError_161 : decode cX6_orderError 161 = .ok (.aload_n 0, 1) := by decide +kernel
theorem dX6_orderError_162 : decode cX6_orderError 162 = .ok (.getfield 167, 3) := by decide +kernel
theorem dX6_orderError_165 : decode cX6_orderError 165 = .ok (.invokevirtual 133, 3) := by decide +kernel
theorem dX6_orderError_168 : decode cX6_orderError 168 = .ok (.ireturn, 1) := by decide +kernel
theorem dX6_orderError_169 : decode cX6_orderError 169 = .ok (.iconst 0, 1) := by decide +kernel
theorem dX6_orderError_170 : decode cX6_orderError 170 = .ok (.ireturn, 1) := by decide +kernel
set_option maxRecDepth 20000 in
theorem ggX6_does_X6_creates : GoodIn wsX6_does wsX6_creates := goodIn_r _ [9, 10, 11, 12, 13, 8, 14, 15, 16, 17, 18, 19, 20, 116, 117, 118, 119, 120, 121, 122, 123, 124, 125] (by decide +kernel) (by decide +kernel)
set_option maxRecDepth 20000 in
theorem gX6_does_X6_creates : GoodIn wsX6_does (wsV RX6 106 RX6 yX6_creates wsX6_creates) := goodIn_app (goodIn_of _ (by decide +kernel)) ggX6_does_X6_creates
set_option maxRecDepth 20000 in
theorem ggX6_does_X6_opens : GoodIn wsX6_does wsX6_opens := goodIn_r _ [24, 10, 18, 19, 8, 20, 25, 26, 27, 28, 11, 12, 13, 14, 15, 16, 17, 29, 30, 31, 32, 33, 34, 35, 116, 117, 118, 119, 120, 121, 122, 123, 124, 125] (by decide +kernel) (by decide +kernel)
set_option maxRecDepth 20000 in
theorem gX6_does_X6_opens : GoodIn wsX6_does (wsV RX6 112 RX6 yX6_opens wsX6_opens) := goodIn_app (goodIn_of _ (by decide +kernel)) ggX6_does_X6_opens
set_option maxRecDepth 20000 in
theorem ggX6_does_X6_closes : GoodIn wsX6_does wsX6_closes := goodIn_r _ [39, 10, 40, 41, 42, 8, 43, 18, 19, 20, 44, 45, 46, 47, 116, 117, 118, 119, 120, 121, 122, 123, 124, 125] (by decide +kernel) (by decide +kernel)
set_option maxRecDepth 20000 in
theorem gX6_does_X6_closes : GoodIn wsX6_does (wsV RX6 118 RX6 yX6_closes wsX6_closes) := goodIn_app (goodIn_of _ (by decide +kernel)) ggX6_does_X6_closes
set_option maxRecDepth 20000 in
theorem ggX6_does_X6_removes : GoodIn wsX6_does wsX6_removes := goodIn_r _ [51, 10, 44, 45, 46, 8, 47, 18, 19, 20, 116, 117, 118, 119, 120, 121, 122, 123, 124, 125] (by decide +kernel) (by decide +kernel)
set_option maxRecDepth 20000 in
theorem gX6_does_X6_removes : GoodIn wsX6_does (wsV RX6 121 RX6 yX6_removes wsX6_removes) := goodIn_app (goodIn_of _ (by decide +kernel)) ggX6_does_X6_removes
set_option maxRecDepth 20000 in
theorem ggX6_does_X6_syncs : GoodIn wsX6_does wsX6_syncs := goodIn_r _ [55, 10, 18, 19, 8, 20, 116, 117, 118, 119, 120, 121, 122, 123, 124, 125] (by decide +kernel) (by decide +kernel)
set_option maxRecDepth 20000 in
theorem gX6_does_X6_syncs : GoodIn wsX6_does (wsV RX6 124 RX6 yX6_syncs wsX6_syncs) := goodIn_app (goodIn_of _ (by decide +kernel)) ggX6_does_X6_syncs
set_option maxRecDepth 20000 in
theorem ggX6_does_X6_appends : GoodIn wsX6_does wsX6_appends := goodIn_r _ [59, 10, 18, 19, 8, 20, 60, 61, 62, 63, 64, 65, 66, 67, 68, 69, 70, 71, 72, 73, 74, 75, 33, 34, 35, 76, 77, 78, 79, 40, 41, 42, 43, 44, 45, 46, 47, 80, 81, 82, 83, 84, 85, 86, 87, 88, 89, 90, 91, 92, 93, 94, 95, 96, 97, 98, 99, 100, 101, 102, 103, 116, 117, 118, 119, 120, 121, 122, 123, 124, 125] (by decide +kernel) (by decide +kernel)
set_option maxRecDepth 20000 in
theorem gX6_does_X6_appends : GoodIn wsX6_does (wsV RX6 130 RX6 yX6_appends wsX6_appends) := goodIn_app (goodIn_of _ (by decide +kernel)) ggX6_does_X6_appends
set_option maxRecDepth 20000 in
theorem ggX6_does_X6_cuts : GoodIn wsX6_does wsX6_cuts := goodIn_r _ [107, 10, 18, 19, 8, 20, 40, 41, 42, 43, 44, 45, 46, 47, 116, 117, 118, 119, 120, 121, 122, 123, 124, 125] (by decide +kernel) (by decide +kernel)
set_option maxRecDepth 20000 in
theorem gX6_does_X6_cuts : GoodIn wsX6_does (wsV RX6 136 RX6 yX6_cuts wsX6_cuts) := goodIn_app (goodIn_of _ (by decide +kernel)) ggX6_does_X6_cuts
set_option maxRecDepth 20000 in
theorem ggX6_does_X6_crashes : GoodIn wsX6_does wsX6_crashes := goodIn_r _ [111, 10, 18, 19, 8, 20, 11, 12, 13, 14, 15, 16, 17, 116, 117, 118, 119, 120, 121, 122, 123, 124, 125] (by decide +kernel) (by decide +kernel)
set_option maxRecDepth 20000 in
theorem gX6_does_X6_crashes : GoodIn wsX6_does (wsV RX6 139 RX6 yX6_crashes wsX6_crashes) := goodIn_app (goodIn_of _ (by decide +kernel)) ggX6_does_X6_crashes
set_option maxRecDepth 20000 in
theorem ggX6_does_X6_mends : GoodIn wsX6_does wsX6_mends := goodIn_r _ [115, 11, 12, 13, 8, 14, 10, 15, 16, 17, 18, 19, 20, 29, 30, 31, 32, 40, 41, 42, 43, 44, 45, 46, 47, 116, 117, 118, 119, 120, 121, 122, 123, 124, 125] (by decide +kernel) (by decide +kernel)
set_option maxRecDepth 20000 in
theorem gX6_does_X6_mends : GoodIn wsX6_does (wsV RX6 142 RX6 yX6_mends wsX6_mends) := goodIn_app (goodIn_of _ (by decide +kernel)) ggX6_does_X6_mends
theorem dX6_does_0 : decode cX6_does 0 = .ok (.aload_n 0, 1) := by decide +kernel
theorem dX6_does_1 : decode cX6_does 1 = .ok (.getfield 173, 3) := by decide +kernel
theorem dX6_does_4 : decode cX6_does 4 = .ok (.lookupswitch 153 #[(33, 148), (97, 117), (100, 99), (110, 76), (111, 81), (115, 108), (116, 135), (120, 90)], 76) := by decide +kernel
theorem dX6_does_80 : decode cX6_does 80 = .ok (.aload_n 0, 1) := by decide +kernel
theorem dX6_does_81 : decode cX6_does 81 = .ok (.invokevirtual 106, 3) := by decide +kernel
theorem dX6_does_84 : decode cX6_does 84 = .ok (.ireturn, 1) := by decide +kernel
theorem dX6_does_85 : decode cX6_does 85 = .ok (.aload_n 0, 1) := by decide +kernel
theorem dX6_does_86 : decode cX6_does 86 = .ok (.aload_n 0, 1) := by decide +kernel
theorem dX6_does_87 : decode cX6_does 87 = .ok (.getfield 154, 3) := by decide +kernel
theorem dX6_does_90 : decode cX6_does 90 = .ok (.invokevirtual 112, 3) := by decide +kernel
theorem dX6_does_93 : decode cX6_does 93 = .ok (.ireturn, 1) := by decide +kernel
theorem dX6_does_94 : decode cX6_does 94 = .ok (.aload_n 0, 1) := by decide +kernel
theorem dX6_does_95 : decode cX6_does 95 = .ok (.aload_n 0, 1) := by decide +kernel
theorem dX6_does_96 : decode cX6_does 96 = .ok (.getfield 154, 3) := by decide +kernel
theorem dX6_does_99 : decode cX6_does 99 = .ok (.invokevirtual 118, 3) := by decide +kernel
theorem dX6_does_102 : decode cX6_does 102 = .ok (.ireturn, 1) := by decide +kernel
theorem dX6_does_103 : decode cX6_does 103 = .ok (.aload_n 0, 1) := by decide +kernel
theorem dX6_does_104 : decode cX6_does 104 = .ok (.aload_n 0, 1) := by decide +kernel
theorem dX6_does_105 : decode cX6_does 105 = .ok (.getfield 154, 3) := by decide +kernel
theorem dX6_does_108 : decode cX6_does 108 = .ok (.invokevirtual 121, 3) := by decide +kernel
theorem dX6_does_111 : decode cX6_does 111 = .ok (.ireturn, 1) := by decide +kernel
theorem dX6_does_112 : decode cX6_does 112 = .ok (.aload_n 0, 1) := by decide +kernel
theorem dX6_does_113 : decode cX6_does 113 = .ok (.aload_n 0, 1) := by decide +kernel
theorem dX6_does_114 : decode cX6_does 114 = .ok (.getfield 154, 3) := by decide +kernel
theorem dX6_does_117 : decode cX6_does 117 = .ok (.invokevirtual 124, 3) := by decide +kernel
theorem dX6_does_120 : decode cX6_does 120 = .ok (.ireturn, 1) := by decide +kernel
theorem dX6_does_121 : decode cX6_does 121 = .ok (.aload_n 0, 1) := by decide +kernel
theorem dX6_does_122 : decode cX6_does 122 = .ok (.iconst 0, 1) := by decide +kernel
theorem dX6_does_123 : decode cX6_does 123 = .ok (.aload_n 0, 1) := by decide +kernel
theorem dX6_does_124 : decode cX6_does 124 = .ok (.getfield 154, 3) := by decide +kernel
theorem dX6_does_127 : decode cX6_does 127 = .ok (.aload_n 0, 1) := by decide +kernel
theorem dX6_does_128 : decode cX6_does 128 = .ok (.getfield 167, 3) := by decide +kernel
theorem dX6_does_131 : decode cX6_does 131 = .ok (.aload_n 0, 1) := by decide +kernel
theorem dX6_does_132 : decode cX6_does 132 = .ok (.getfield 170, 3) := by decide +kernel
theorem dX6_does_135 : decode cX6_does 135 = .ok (.invokevirtual 130, 3) := by decide +kernel
theorem dX6_does_138 : decode cX6_does 138 = .ok (.ireturn, 1) := by decide +kernel
theorem dX6_does_139 : decode cX6_does 139 = .ok (.aload_n 0, 1) := by decide +kernel
theorem dX6_does_140 : decode cX6_does 140 = .ok (.aload_n 0, 1) := by decide +kernel
theorem dX6_does_141 : decode cX6_does 141 = .ok (.getfield 154, 3) := by decide +kernel
theorem dX6_does_144 : decode cX6_does 144 = .ok (.aload_n 0, 1) := by decide +kernel
theorem dX6_does_145 : decode cX6_does 145 = .ok (.getfield 167, 3) := by decide +kernel
theorem dX6_does_148 : decode cX6_does 148 = .ok (.invokevirtual 136, 3) := by decide +kernel
theorem dX6_does_151 : decode cX6_does 151 = .ok (.ireturn, 1) := by decide +kernel
theorem dX6_does_152 : decode cX6_does 152 = .ok (.aload_n 0, 1) := by decide +kernel
theorem dX6_does_153 : decode cX6_does 153 = .ok (.invokevirtual 139, 3) := by decide +kernel
theorem dX6_does_156 : decode cX6_does 156 = .ok (.ireturn, 1) := by decide +kernel
theorem dX6_does_157 : decode cX6_does 157 = .ok (.aload_n 0, 1) := by decide +kernel
theorem dX6_does_158 : decode cX6_does 158 = .ok (.invokevirtual 142, 3) := by decide +kernel
theorem dX6_does_161 : decode cX6_does 161 = .ok (.ireturn, 1) := by decide +kernel
set_option maxRecDepth 20000 in
theorem ggX6_perform_X6_fault : GoodIn wsX6_perform wsX6_fault := goodIn_r _ [6, 1, 7, 8, 9, 10, 5, 11, 12, 13, 14, 15, 16, 17, 18, 19, 20, 21, 22, 23, 24, 25, 26, 27, 28, 29, 30, 31, 32, 33, 34, 35, 36, 37, 38, 39, 40, 41, 42, 43, 44, 45, 46, 200, 201, 202, 203, 204, 205, 206, 207, 208, 209] (by decide +kernel) (by decide +kernel)
set_option maxRecDepth 20000 in
theorem gX6_perform_X6_fault : GoodIn wsX6_perform (wsV RX6 185 RX6 yX6_fault wsX6_fault) := goodIn_app (goodIn_of _ (by decide +kernel)) ggX6_perform_X6_fault
set_option maxRecDepth 20000 in
theorem ggX6_perform_X6_records : GoodIn wsX6_perform wsX6_records := goodIn_r _ [50, 51, 52, 53, 54, 5, 55, 56, 200, 201, 202, 203, 204, 205, 206, 207, 208, 209] (by decide +kernel) (by decide +kernel)
set_option maxRecDepth 20000 in
theorem gX6_perform_X6_records : GoodIn wsX6_perform (wsV RX6 103 RX6 yX6_records wsX6_records) := goodIn_app (goodIn_of _ (by decide +kernel)) ggX6_perform_X6_records
set_option maxRecDepth 20000 in
theorem ggX6_perform_X6_readsOrder : GoodIn wsX6_perform wsX6_readsOrder := goodIn_r _ [11, 1, 7, 12, 13, 14, 15, 16, 5, 17, 18, 19, 20, 21, 22, 23, 24, 25, 26, 27, 28, 29, 30, 31, 32, 33, 34, 35, 36, 37, 38, 39, 40, 41, 42, 43, 44, 45, 46, 200, 201, 202, 203, 204, 205, 206, 207, 208, 209] (by decide +kernel) (by decide +kernel)
set_option maxRecDepth 20000 in
theorem gX6_perform_X6_readsOrder : GoodIn wsX6_perform (wsV RX6 182 RX6 yX6_readsOrder wsX6_readsOrder) := goodIn_app (goodIn_of _ (by decide +kernel)) ggX6_perform_X6_readsOrder
set_option maxRecDepth 20000 in
theorem ggX6_perform_X6_orderError : GoodIn wsX6_perform wsX6_orderError := goodIn_r _ [60, 13, 18, 33, 34, 61, 62, 63, 5, 64, 65, 66, 67, 68, 56, 69, 70, 71, 72, 73, 74, 75, 76, 77, 78, 79, 23, 24, 25, 80, 81, 82, 83, 84, 85, 86, 87, 88, 89, 90, 91, 92, 93, 94, 95, 96, 97, 98, 99, 100, 101, 102, 103, 104, 105, 106, 107, 108, 109, 110, 111, 26, 27, 28, 112, 113, 114, 115, 200, 201, 202, 203, 204, 205, 206, 207, 208, 209] (by decide +kernel) (by decide +kernel)
set_option maxRecDepth 20000 in
theorem gX6_perform_X6_orderError : GoodIn wsX6_perform (wsV RX6 188 RX6 yX6_orderError wsX6_orderError) := goodIn_app (goodIn_of _ (by decide +kernel)) ggX6_perform_X6_orderError
set_option maxRecDepth 20000 in
theorem ggX6_perform_X6_does : GoodIn wsX6_perform wsX6_does := goodIn_r _ [119, 13, 18, 33, 34, 120, 121, 122, 5, 123, 56, 76, 77, 78, 79, 23, 24, 25, 69, 70, 71, 124, 125, 126, 127, 128, 129, 130, 131, 80, 81, 82, 83, 26, 27, 28, 132, 133, 134, 135, 136, 137, 138, 139, 140, 141, 142, 143, 144, 145, 146, 147, 148, 149, 150, 151, 152, 153, 154, 155, 100, 101, 102, 103, 156, 157, 158, 159, 104, 105, 106, 107, 108, 109, 110, 111, 160, 161, 162, 163, 164, 165, 166, 167, 168, 169, 170, 171, 172, 173, 174, 175, 176, 177, 178, 179, 180, 181, 182, 183, 184, 185, 186, 187, 188, 189, 190, 191, 192, 193, 194, 195, 196, 197, 198, 199, 200, 201, 202, 203, 204, 205, 206, 207, 208, 209] (by decide +kernel) (by decide +kernel)
set_option maxRecDepth 20000 in
theorem gX6_perform_X6_does : GoodIn wsX6_perform (wsV RX6 191 RX6 yX6_does wsX6_does) := goodIn_app (goodIn_of _ (by decide +kernel)) ggX6_perform_X6_does
set_option maxRecDepth 20000 in
theorem ggX6_perform_X6_flag : GoodIn wsX6_perform wsX6_flag := goodIn_r _ [28] (by decide +kernel) (by decide +kernel)
set_option maxRecDepth 20000 in
theorem gX6_perform_X6_flag : GoodIn wsX6_perform (va_wsS RX6 36 yX6_flag wsX6_flag) := goodIn_app (goodIn_of _ (by decide +kernel)) ggX6_perform_X6_flag
set_option maxRecDepth 20000 in
theorem ggX6_perform_X6_takes : GoodIn wsX6_perform wsX6_takes := goodIn_r _ [38, 1, 19, 20, 21, 5, 22, 7, 12, 23, 24, 25, 26, 27, 28, 200, 201, 202, 203, 204, 205, 206, 207, 208, 209] (by decide +kernel) (by decide +kernel)
set_option maxRecDepth 20000 in
theorem gX6_perform_X6_takes : GoodIn wsX6_perform (wsV RX6 161 RX6 yX6_takes wsX6_takes) := goodIn_app (goodIn_of _ (by decide +kernel)) ggX6_perform_X6_takes
theorem dX6_perform_0 : decode cX6_perform 0 = .ok (.aload_n 0, 1) := by decide +kernel
theorem dX6_perform_1 : decode cX6_perform 1 = .ok (.invokevirtual 185, 3) := by decide +kernel
theorem dX6_perform_4 : decode cX6_perform 4 = .ok (.istore_n 1, 1) := by decide +kernel
theorem dX6_perform_5 : decode cX6_perform 5 = .ok (.iload_n 1, 1) := by decide +kernel
theorem dX6_perform_6 : decode cX6_perform 6 = .ok (.bipush (-5), 2) := by decide +kernel
theorem dX6_perform_8 : decode cX6_perform 8 = .ok (.if_icmp .eq 8, 3) := by decide +kernel
theorem dX6_perform_11 : decode cX6_perform 11 = .ok (.bipush (-100), 2) := by decide +kernel
theorem dX6_perform_13 : decode cX6_perform 13 = .ok (.iload_n 1, 1) := by decide +kernel
theorem dX6_perform_14 : decode cX6_perform 14 = .ok (.isub, 1) := by decide +kernel
theorem dX6_perform_15 : decode cX6_perform 15 = .ok (.ireturn, 1) := by decide +kernel
theorem dX6_perform_16 : decode cX6_perform 16 = .ok (.aload_n 0, 1) := by decide +kernel
theorem dX6_perform_17 : decode cX6_perform 17 = .ok (.invokevirtual 103, 3) := by decide +kernel
theorem dX6_perform_20 : decode cX6_perform 20 = .ok (.aload_n 0, 1) := by decide +kernel
theorem dX6_perform_21 : decode cX6_perform 21 = .ok (.iconst 0, 1) := by decide +kernel
theorem dX6_perform_22 : decode cX6_perform 22 = .ok (.putfield 148, 3) := by decide +kernel
theorem dX6_perform_25 : decode cX6_perform 25 = .ok (.iconst 0, 1) := by decide +kernel
theorem dX6_perform_26 : decode cX6_perform 26 = .ok (.istore_n 2, 1) := by decide +kernel
theorem dX6_perform_27 : decode cX6_perform 27 = .ok (.iconst 1, 1) := by decide +kernel
theorem dX6_perform_28 : decode cX6_perform 28 = .ok (.istore_n 3, 1) := by decide +kernel
theorem dX6_perform_29 : decode cX6_perform 29 = .ok (.iload_n 3, 1) := by decide +kernel
theorem dX6_perform_30 : decode cX6_perform 30 = .ok (.ifCond .eq 71, 3) := by decide +kernel
theorem dX6_perform_33 : decode cX6_perform 33 = .ok (.aload_n 0, 1) := by decide +kernel
theorem dX6_perform_34 : decode cX6_perform 34 = .ok (.invokevirtual 182, 3) := by decide +kernel
theorem dX6_perform_37 : decode cX6_perform 37 = .ok (.ifCond .eq 14, 3) := by decide +kernel
theorem dX6_perform_40 : decode cX6_perform 40 = .ok (.aload_n 0, 1) := by decide +kernel
theorem dX6_perform_41 : decode cX6_perform 41 = .ok (.invokevirtual 188, 3) := by decide +kernel
theorem dX6_perform_44 : decode cX6_perform 44 = .ok (.ifCond .ne 7, 3) := by decide +kernel
theorem dX6_perform_47 : decode cX6_perform 47 = .ok (.iconst 1, 1) := by decide +kernel
theorem dX6_perform_48 : decode cX6_perform 48 = .ok (.goto 4, 3) := by decide +kernel
theorem dX6_perform_51 : decode cX6_perform 51 = .ok (.iconst 0, 1) := by decide +kernel
theorem dX6_perform_52 : decode cX6_perform 52 = .ok (.istore 4, 2) := by decide +kernel
theorem dX6_perform_54 : decode cX6_perform 54 = .ok (.iload 4, 2) := by decide +kernel
theorem dX6_perform_56 : decode cX6_perform 56 = .ok (.ifCond .eq 10, 3) := by decide +kernel
theorem dX6_perform_59 : decode cX6_perform 59 = .ok (.aload_n 0, 1) := by decide +kernel
theorem dX6_perform_60 : decode cX6_perform 60 = .ok (.invokevirtual 191, 3) := by decide +kernel
theorem dX6_perform_63 : decode cX6_perform 63 = .ok (.goto 5, 3) := by decide +kernel
theorem dX6_perform_66 : decode cX6_perform 66 = .ok (.bipush (-5), 2) := by decide +kernel
theorem dX6_perform_68 : decode cX6_perform 68 = .ok (.istore 5, 2) := by decide +kernel
theorem dX6_perform_70 : decode cX6_perform 70 = .ok (.iload_n 2, 1) := by decide +kernel
theorem dX6_perform_71 : decode cX6_perform 71 = .ok (.iload 4, 2) := by decide +kernel
theorem dX6_perform_73 : decode cX6_perform 73 = .ok (.invokestatic 36, 3) := by decide +kernel
theorem dX6_perform_76 : decode cX6_perform 76 = .ok (.iadd, 1) := by decide +kernel
theorem dX6_perform_77 : decode cX6_perform 77 = .ok (.istore_n 2, 1) := by decide +kernel
theorem dX6_perform_78 : decode cX6_perform 78 = .ok (.iload 4, 2) := by decide +kernel
theorem dX6_perform_80 : decode cX6_perform 80 = .ok (.ifCond .eq 16, 3) := by decide +kernel
theorem dX6_perform_83 : decode cX6_perform 83 = .ok (.aload_n 0, 1) := by decide +kernel
theorem dX6_perform_84 : decode cX6_perform 84 = .ok (.bipush 59, 2) := by decide +kernel
theorem dX6_perform_86 : decode cX6_perform 86 = .ok (.invokevirtual 161, 3) := by decide +kernel
theorem dX6_perform_89 : decode cX6_perform 89 = .ok (.ifCond .eq 7, 3) := by decide +kernel
theorem dX6_perform_92 : decode cX6_perform 92 = .ok (.iconst 1, 1) := by decide +kernel
theorem dX6_perform_93 : decode cX6_perform 93 = .ok (.goto 4, 3) := by decide +kernel
theorem dX6_perform_96 : decode cX6_perform 96 = .ok (.iconst 0, 1) := by decide +kernel
theorem dX6_perform_97 : decode cX6_perform 97 = .ok (.istore_n 3, 1) := by decide +kernel
theorem dX6_perform_98 : decode cX6_perform 98 = .ok (.goto (-69), 3) := by decide +kernel
theorem dX6_perform_101 : decode cX6_perform 101 = .ok (.iload_n 2, 1) := by decide +kernel
theorem dX6_perform_102 : decode cX6_perform 102 = .ok (.ireturn, 1) := by decide +kernel
set_option maxRecDepth 20000 in
theorem ggX6_undo_X6_copies : GoodIn wsX6_undo wsX6_copies := goodIn_r _ [6, 7, 8, 9, 10, 11, 12, 13, 14, 15, 16, 17] (by decide +kernel) (by decide +kernel)
set_option maxRecDepth 20000 in
theorem gX6_undo_X6_copies : GoodIn wsX6_undo (wsV RX6 20 RX6 yX6_copies wsX6_copies) := goodIn_app (goodIn_of _ (by decide +kernel)) ggX6_undo_X6_copies
theorem dX6_undo_0 : decode cX6_undo 0 = .ok (.aload_n 0, 1) := by decide +kernel
theorem dX6_undo_1 : decode cX6_undo 1 = .ok (.getfield 16, 3) := by decide +kernel
theorem dX6_undo_4 : decode cX6_undo 4 = .ok (.ifCond .ne 6, 3) := by decide +kernel
theorem dX6_undo_7 : decode cX6_undo 7 = .ok (.bipush (-5), 2) := by decide +kernel
theorem dX6_undo_9 : decode cX6_undo 9 = .ok (.ireturn, 1) := by decide +kernel
theorem dX6_undo_10 : decode cX6_undo 10 = .ok (.aload_n 0, 1) := by decide +kernel
theorem dX6_undo_11 : decode cX6_undo 11 = .ok (.aload_n 0, 1) := by decide +kernel
theorem dX6_undo_12 : decode cX6_undo 12 = .ok (.getfield 16, 3) := by decide +kernel
theorem dX6_undo_15 : decode cX6_undo 15 = .ok (.iconst 0, 1) := by decide +kernel
theorem dX6_undo_16 : decode cX6_undo 16 = .ok (.invokevirtual 20, 3) := by decide +kernel
theorem dX6_undo_19 : decode cX6_undo 19 = .ok (.aload_n 0, 1) := by decide +kernel
theorem dX6_undo_20 : decode cX6_undo 20 = .ok (.dup, 1) := by decide +kernel
theorem dX6_undo_21 : decode cX6_undo 21 = .ok (.getfield 16, 3) := by decide +kernel
theorem dX6_undo_24 : decode cX6_undo 24 = .ok (.iconst 1, 1) := by decide +kernel
theorem dX6_undo_25 : decode cX6_undo 25 = .ok (.isub, 1) := by decide +kernel
theorem dX6_undo_26 : decode cX6_undo 26 = .ok (.putfield 16, 3) := by decide +kernel
theorem dX6_undo_29 : decode cX6_undo 29 = .ok (.aload_n 0, 1) := by decide +kernel
theorem dX6_undo_30 : decode cX6_undo 30 = .ok (.getfield 16, 3) := by decide +kernel
theorem dX6_undo_33 : decode cX6_undo 33 = .ok (.ireturn, 1) := by decide +kernel
set_option maxRecDepth 20000 in
theorem ggX6_save_X6_copies : GoodIn wsX6_save wsX6_copies := goodIn_r _ [6, 7, 19, 20, 21, 22, 23, 24, 25, 26, 27, 28] (by decide +kernel) (by decide +kernel)
set_option maxRecDepth 20000 in
theorem gX6_save_X6_copies : GoodIn wsX6_save (wsV RX6 20 RX6 yX6_copies wsX6_copies) := goodIn_app (goodIn_of _ (by decide +kernel)) ggX6_save_X6_copies
set_option maxRecDepth 20000 in
theorem ggX6_save_X6_free : GoodIn wsX6_save wsX6_free := goodIn_r _ [11, 12, 13, 14, 5, 15, 7, 16, 17, 18, 19, 20, 21, 22, 23, 24, 25, 26, 27, 28] (by decide +kernel) (by decide +kernel)
set_option maxRecDepth 20000 in
theorem gX6_save_X6_free : GoodIn wsX6_save (wsV RX6 56 RX6 yX6_free wsX6_free) := goodIn_app (goodIn_of _ (by decide +kernel)) ggX6_save_X6_free
theorem dX6_save_0 : decode cX6_save 0 = .ok (.aload_n 0, 1) := by decide +kernel
theorem dX6_save_1 : decode cX6_save 1 = .ok (.iconst 0, 1) := by decide +kernel
theorem dX6_save_2 : decode cX6_save 2 = .ok (.bipush 6, 2) := by decide +kernel
theorem dX6_save_4 : decode cX6_save 4 = .ok (.invokevirtual 20, 3) := by decide +kernel
theorem dX6_save_7 : decode cX6_save 7 = .ok (.aload_n 0, 1) := by decide +kernel
theorem dX6_save_8 : decode cX6_save 8 = .ok (.iconst 1, 1) := by decide +kernel
theorem dX6_save_9 : decode cX6_save 9 = .ok (.putfield 194, 3) := by decide +kernel
theorem dX6_save_12 : decode cX6_save 12 = .ok (.aload_n 0, 1) := by decide +kernel
theorem dX6_save_13 : decode cX6_save 13 = .ok (.iconst 0, 1) := by decide +kernel
theorem dX6_save_14 : decode cX6_save 14 = .ok (.invokevirtual 56, 3) := by decide +kernel
theorem dX6_save_17 : decode cX6_save 17 = .ok (.ireturn, 1) := by decide +kernel
set_option maxRecDepth 20000 in
theorem ggX6_restore_X6_records : GoodIn wsX6_restore wsX6_records := goodIn_r _ [6, 7, 8, 9, 10, 5, 11, 12, 24, 25, 26, 27, 28, 29, 30, 31, 32, 33] (by decide +kernel) (by decide +kernel)
set_option maxRecDepth 20000 in
theorem gX6_restore_X6_records : GoodIn wsX6_restore (wsV RX6 103 RX6 yX6_records wsX6_records) := goodIn_app (goodIn_of _ (by decide +kernel)) ggX6_restore_X6_records
set_option maxRecDepth 20000 in
theorem ggX6_restore_X6_copies : GoodIn wsX6_restore wsX6_copies := goodIn_r _ [11, 12, 24, 25, 26, 27, 28, 29, 30, 31, 32, 33] (by decide +kernel) (by decide +kernel)
set_option maxRecDepth 20000 in
theorem gX6_restore_X6_copies : GoodIn wsX6_restore (wsV RX6 20 RX6 yX6_copies wsX6_copies) := goodIn_app (goodIn_of _ (by decide +kernel)) ggX6_restore_X6_copies
set_option maxRecDepth 20000 in
theorem ggX6_restore_X6_free : GoodIn wsX6_restore wsX6_free := goodIn_r _ [16, 17, 18, 19, 5, 20, 12, 21, 22, 23, 24, 25, 26, 27, 28, 29, 30, 31, 32, 33] (by decide +kernel) (by decide +kernel)
set_option maxRecDepth 20000 in
theorem gX6_restore_X6_free : GoodIn wsX6_restore (wsV RX6 56 RX6 yX6_free wsX6_free) := goodIn_app (goodIn_of _ (by decide +kernel)) ggX6_restore_X6_free
theorem dX6_restore_0 : decode cX6_restore 0 = .ok (.aload_n 0, 1) := by decide +kernel
theorem dX6_restore_1 : decode cX6_restore 1 = .ok (.getfield 194, 3) := by decide +kernel
theorem dX6_restore_4 : decode cX6_restore 4 = .ok (.ifCond .ne 6, 3) := by decide +kernel
theorem dX6_restore_7 : decode cX6_restore 7 = .ok (.bipush (-4), 2) := by decide +kernel
theorem dX6_restore_9 : decode cX6_restore 9 = .ok (.ireturn, 1) := by decide +kernel
theorem dX6_restore_10 : decode cX6_restore 10 = .ok (.aload_n 0, 1) := by decide +kernel
theorem dX6_restore_11 : decode cX6_restore 11 = .ok (.invokevirtual 103, 3) := by decide +kernel
theorem dX6_restore_14 : decode cX6_restore 14 = .ok (.aload_n 0, 1) := by decide +kernel
theorem dX6_restore_15 : decode cX6_restore 15 = .ok (.bipush 6, 2) := by decide +kernel
theorem dX6_restore_17 : decode cX6_restore 17 = .ok (.iconst 0, 1) := by decide +kernel
theorem dX6_restore_18 : decode cX6_restore 18 = .ok (.invokevirtual 20, 3) := by decide +kernel
theorem dX6_restore_21 : decode cX6_restore 21 = .ok (.aload_n 0, 1) := by decide +kernel
theorem dX6_restore_22 : decode cX6_restore 22 = .ok (.iconst 0, 1) := by decide +kernel
theorem dX6_restore_23 : decode cX6_restore 23 = .ok (.invokevirtual 56, 3) := by decide +kernel
theorem dX6_restore_26 : decode cX6_restore 26 = .ok (.ireturn, 1) := by decide +kernel
set_option maxRecDepth 20000 in
theorem ggX6_hasData_X6_isFree : GoodIn wsX6_hasData wsX6_isFree := goodIn_r _ [6, 1, 10, 11, 12, 13, 14, 15, 16, 17, 18, 19] (by decide +kernel) (by decide +kernel)
set_option maxRecDepth 20000 in
theorem gX6_hasData_X6_isFree : GoodIn wsX6_hasData (wsV RX6 32 RX6 yX6_isFree wsX6_isFree) := goodIn_app (goodIn_of _ (by decide +kernel)) ggX6_hasData_X6_isFree
set_option maxRecDepth 20000 in
theorem ggX6_hasData_X6_at : GoodIn wsX6_hasData wsX6_at := goodIn_r _ [9] (by decide +kernel) (by decide +kernel)
set_option maxRecDepth 20000 in
theorem gX6_hasData_X6_at : GoodIn wsX6_hasData (va_wsS RX6 28 yX6_at wsX6_at) := goodIn_app (goodIn_of _ (by decide +kernel)) ggX6_hasData_X6_at
theorem dX6_hasData_0 : decode cX6_hasData 0 = .ok (.aload_n 0, 1) := by decide +kernel
theorem dX6_hasData_1 : decode cX6_hasData 1 = .ok (.iconst 0, 1) := by decide +kernel
theorem dX6_hasData_2 : decode cX6_hasData 2 = .ok (.iload_n 1, 1) := by decide +kernel
theorem dX6_hasData_3 : decode cX6_hasData 3 = .ok (.invokevirtual 32, 3) := by decide +kernel
theorem dX6_hasData_6 : decode cX6_hasData 6 = .ok (.ifCond .ne 40, 3) := by decide +kernel
theorem dX6_hasData_9 : decode cX6_hasData 9 = .ok (.aload_n 0, 1) := by decide +kernel
theorem dX6_hasData_10 : decode cX6_hasData 10 = .ok (.getfield 7, 3) := by decide +kernel
theorem dX6_hasData_13 : decode cX6_hasData 13 = .ok (.sipush 128, 3) := by decide +kernel
theorem dX6_hasData_16 : decode cX6_hasData 16 = .ok (.iload_n 1, 1) := by decide +kernel
theorem dX6_hasData_17 : decode cX6_hasData 17 = .ok (.iadd, 1) := by decide +kernel
theorem dX6_hasData_18 : decode cX6_hasData 18 = .ok (.iaload, 1) := by decide +kernel
theorem dX6_hasData_19 : decode cX6_hasData 19 = .ok (.aload_n 0, 1) := by decide +kernel
theorem dX6_hasData_20 : decode cX6_hasData 20 = .ok (.getfield 7, 3) := by decide +kernel
theorem dX6_hasData_23 : decode cX6_hasData 23 = .ok (.iconst 0, 1) := by decide +kernel
theorem dX6_hasData_24 : decode cX6_hasData 24 = .ok (.aload_n 0, 1) := by decide +kernel
theorem dX6_hasData_25 : decode cX6_hasData 25 = .ok (.getfield 7, 3) := by decide +kernel
theorem dX6_hasData_28 : decode cX6_hasData 28 = .ok (.bipush 64, 2) := by decide +kernel
theorem dX6_hasData_30 : decode cX6_hasData 30 = .ok (.iload_n 1, 1) := by decide +kernel
theorem dX6_hasData_31 : decode cX6_hasData 31 = .ok (.iadd, 1) := by decide +kernel
theorem dX6_hasData_32 : decode cX6_hasData 32 = .ok (.iaload, 1) := by decide +kernel
theorem dX6_hasData_33 : decode cX6_hasData 33 = .ok (.invokestatic 28, 3) := by decide +kernel
theorem dX6_hasData_36 : decode cX6_hasData 36 = .ok (.iconst 2, 1) := by decide +kernel
theorem dX6_hasData_37 : decode cX6_hasData 37 = .ok (.iadd, 1) := by decide +kernel
theorem dX6_hasData_38 : decode cX6_hasData 38 = .ok (.iaload, 1) := by decide +kernel
theorem dX6_hasData_39 : decode cX6_hasData 39 = .ok (.if_icmp .ge 7, 3) := by decide +kernel
theorem dX6_hasData_42 : decode cX6_hasData 42 = .ok (.iconst 1, 1) := by decide +kernel
theorem dX6_hasData_43 : decode cX6_hasData 43 = .ok (.goto 4, 3) := by decide +kernel
theorem dX6_hasData_46 : decode cX6_hasData 46 = .ok (.iconst 0, 1) := by decide +kernel
theorem dX6_hasData_47 : decode cX6_hasData 47 = .ok (.ireturn, 1) := by decide +kernel
set_option maxRecDepth 20000 in
theorem ggX6_block_X6_in : GoodIn wsX6_block wsX6_in := goodIn_r _ [5] (by decide +kernel) (by decide +kernel)
set_option maxRecDepth 20000 in
theorem gX6_block_X6_in : GoodIn wsX6_block (va_wsS RX6 24 yX6_in wsX6_in) := goodIn_app (goodIn_of _ (by decide +kernel)) ggX6_block_X6_in
set_option maxRecDepth 20000 in
theorem ggX6_block_X6_isFree : GoodIn wsX6_block wsX6_isFree := goodIn_r _ [9, 1, 17, 18, 19, 20, 21, 22, 23, 24, 25, 26] (by decide +kernel) (by decide +kernel)
set_option maxRecDepth 20000 in
theorem gX6_block_X6_isFree : GoodIn wsX6_block (wsV RX6 32 RX6 yX6_isFree wsX6_isFree) := goodIn_app (goodIn_of _ (by decide +kernel)) ggX6_block_X6_isFree
set_option maxRecDepth 20000 in
theorem ggX6_block_X6_hasData : GoodIn wsX6_block wsX6_hasData := goodIn_r _ [13, 1, 6, 7, 8, 4, 9, 14, 15, 16, 17, 18, 19, 20, 21, 22, 23, 24, 25, 26] (by decide +kernel) (by decide +kernel)
set_option maxRecDepth 20000 in
theorem gX6_block_X6_hasData : GoodIn wsX6_block (wsV RX6 198 RX6 yX6_hasData wsX6_hasData) := goodIn_app (goodIn_of _ (by decide +kernel)) ggX6_block_X6_hasData
theorem dX6_block_0 : decode cX6_block 0 = .ok (.iload_n 1, 1) := by decide +kernel
theorem dX6_block_1 : decode cX6_block 1 = .ok (.iconst 0, 1) := by decide +kernel
theorem dX6_block_2 : decode cX6_block 2 = .ok (.bipush 63, 2) := by decide +kernel
theorem dX6_block_4 : decode cX6_block 4 = .ok (.invokestatic 24, 3) := by decide +kernel
theorem dX6_block_7 : decode cX6_block 7 = .ok (.ifCond .ne 5, 3) := by decide +kernel
theorem dX6_block_10 : decode cX6_block 10 = .ok (.iconst (-1), 1) := by decide +kernel
theorem dX6_block_11 : decode cX6_block 11 = .ok (.ireturn, 1) := by decide +kernel
theorem dX6_block_12 : decode cX6_block 12 = .ok (.iload_n 2, 1) := by decide +kernel
theorem dX6_block_13 : decode cX6_block 13 = .ok (.tableswitch 100 0 3 #[31, 41, 68, 93], 31) := by decide +kernel
theorem dX6_block_44 : decode cX6_block 44 = .ok (.aload_n 0, 1) := by decide +kernel
theorem dX6_block_45 : decode cX6_block 45 = .ok (.getfield 7, 3) := by decide +kernel
theorem dX6_block_48 : decode cX6_block 48 = .ok (.bipush 64, 2) := by decide +kernel
theorem dX6_block_50 : decode cX6_block 50 = .ok (.iload_n 1, 1) := by decide +kernel
theorem dX6_block_51 : decode cX6_block 51 = .ok (.iadd, 1) := by decide +kernel
theorem dX6_block_52 : decode cX6_block 52 = .ok (.iaload, 1) := by decide +kernel
theorem dX6_block_53 : decode cX6_block 53 = .ok (.ireturn, 1) := by decide +kernel
theorem dX6_block_54 : decode cX6_block 54 = .ok (.aload_n 0, 1) := by decide +kernel
theorem dX6_block_55 : decode cX6_block 55 = .ok (.iconst 0, 1) := by decide +kernel
theorem dX6_block_56 : decode cX6_block 56 = .ok (.iload_n 1, 1) := by decide +kernel
theorem dX6_block_57 : decode cX6_block 57 = .ok (.invokevirtual 32, 3) := by decide +kernel
theorem dX6_block_60 : decode cX6_block 60 = .ok (.ifCond .eq 7, 3) := by decide +kernel
theorem dX6_block_63 : decode cX6_block 63 = .ok (.iconst 0, 1) := by decide +kernel
theorem dX6_block_64 : decode cX6_block 64 = .ok (.goto 16, 3) := by decide +kernel
theorem dX6_block_67 : decode cX6_block 67 = .ok (.aload_n 0, 1) := by decide +kernel
theorem dX6_block_68 : decode cX6_block 68 = .ok (.iload_n 1, 1) := by decide +kernel
theorem dX6_block_69 : decode cX6_block 69 = .ok (.invokevirtual 198, 3) := by decide +kernel
theorem dX6_block_72 : decode cX6_block 72 = .ok (.ifCond .eq 7, 3) := by decide +kernel
theorem dX6_block_75 : decode cX6_block 75 = .ok (.iconst 1, 1) := by decide +kernel
theorem dX6_block_76 : decode cX6_block 76 = .ok (.goto 4, 3) := by decide +kernel
theorem dX6_block_79 : decode cX6_block 79 = .ok (.iconst 2, 1) := by decide +kernel
theorem dX6_block_80 : decode cX6_block 80 = .ok (.ireturn, 1) := by decide +kernel
theorem dX6_block_81 : decode cX6_block 81 = .ok (.aload_n 0, 1) := by decide +kernel
theorem dX6_block_82 : decode cX6_block 82 = .ok (.iconst 0, 1) := by decide +kernel
theorem dX6_block_83 : decode cX6_block 83 = .ok (.iload_n 1, 1) := by decide +kernel
theorem dX6_block_84 : decode cX6_block 84 = .ok (.invokevirtual 32, 3) := by decide +kernel
theorem dX6_block_87 : decode cX6_block 87 = .ok (.ifCond .eq 8, 3) := by decide +kernel
theorem dX6_block_90 : decode cX6_block 90 = .ok (.bipush (-5), 2) := by decide +kernel
theorem dX6_block_92 : decode cX6_block 92 = .ok (.goto 13, 3) := by decide +kernel
theorem dX6_block_95 : decode cX6_block 95 = .ok (.aload_n 0, 1) := by decide +kernel
theorem dX6_block_96 : decode cX6_block 96 = .ok (.getfield 7, 3) := by decide +kernel
theorem dX6_block_99 : decode cX6_block 99 = .ok (.sipush 128, 3) := by decide +kernel
theorem dX6_block_102 : decode cX6_block 102 = .ok (.iload_n 1, 1) := by decide +kernel
theorem dX6_block_103 : decode cX6_block 103 = .ok (.iadd, 1) := by decide +kernel
theorem dX6_block_104 : decode cX6_block 104 = .ok (.iaload, 1) := by decide +kernel
theorem dX6_block_105 : decode cX6_block 105 = .ok (.ireturn, 1) := by decide +kernel
theorem dX6_block_106 : decode cX6_block 106 = .ok (.aload_n 0, 1) := by decide +kernel
theorem dX6_block_107 : decode cX6_block 107 = .ok (.getfield 7, 3) := by decide +kernel
theorem dX6_block_110 : decode cX6_block 110 = .ok (.iload_n 1, 1) := by decide +kernel
theorem dX6_block_111 : decode cX6_block 111 = .ok (.iaload, 1) := by decide +kernel
theorem dX6_block_112 : decode cX6_block 112 = .ok (.ireturn, 1) := by decide +kernel
theorem dX6_block_113 : decode cX6_block 113 = .ok (.bipush (-2), 2) := by decide +kernel
theorem dX6_block_115 : decode cX6_block 115 = .ok (.ireturn, 1) := by decide +kernel
set_option maxRecDepth 20000 in
theorem ggX6_file_X6_isThere : GoodIn wsX6_file wsX6_isThere := goodIn_r _ [6, 1, 7, 8, 5, 9, 10, 11, 12, 28, 29, 30, 31, 32, 33, 34, 35, 36, 37] (by decide +kernel) (by decide +kernel)
set_option maxRecDepth 20000 in
theorem gX6_file_X6_isThere : GoodIn wsX6_file (wsV RX6 83 RX6 yX6_isThere wsX6_isThere) := goodIn_app (goodIn_of _ (by decide +kernel)) ggX6_file_X6_isThere
set_option maxRecDepth 20000 in
theorem ggX6_file_X6_at : GoodIn wsX6_file wsX6_at := goodIn_r _ [12] (by decide +kernel) (by decide +kernel)
set_option maxRecDepth 20000 in
theorem gX6_file_X6_at : GoodIn wsX6_file (va_wsS RX6 28 yX6_at wsX6_at) := goodIn_app (goodIn_of _ (by decide +kernel)) ggX6_file_X6_at
set_option maxRecDepth 20000 in
theorem ggX6_file_X6_lent : GoodIn wsX6_file wsX6_lent := goodIn_r _ [16, 1, 10, 11, 5, 12, 28, 29, 30, 31, 32, 33, 34, 35, 36, 37] (by decide +kernel) (by decide +kernel)
set_option maxRecDepth 20000 in
theorem gX6_file_X6_lent : GoodIn wsX6_file (wsV RX6 47 RX6 yX6_lent wsX6_lent) := goodIn_app (goodIn_of _ (by decide +kernel)) ggX6_file_X6_lent
set_option maxRecDepth 20000 in
theorem ggX6_file_X6_extents : GoodIn wsX6_file wsX6_extents := goodIn_r _ [20, 1, 10, 11, 5, 12, 21, 22, 23, 24, 25, 26, 27, 28, 29, 30, 31, 32, 33, 34, 35, 36, 37] (by decide +kernel) (by decide +kernel)
set_option maxRecDepth 20000 in
theorem gX6_file_X6_extents : GoodIn wsX6_file (wsV RX6 80 RX6 yX6_extents wsX6_extents) := goodIn_app (goodIn_of _ (by decide +kernel)) ggX6_file_X6_extents
theorem dX6_file_0 : decode cX6_file 0 = .ok (.aload_n 0, 1) := by decide +kernel
theorem dX6_file_1 : decode cX6_file 1 = .ok (.iload_n 1, 1) := by decide +kernel
theorem dX6_file_2 : decode cX6_file 2 = .ok (.invokevirtual 83, 3) := by decide +kernel
theorem dX6_file_5 : decode cX6_file 5 = .ok (.ifCond .ne 5, 3) := by decide +kernel
theorem dX6_file_8 : decode cX6_file 8 = .ok (.iconst (-1), 1) := by decide +kernel
theorem dX6_file_9 : decode cX6_file 9 = .ok (.ireturn, 1) := by decide +kernel
theorem dX6_file_10 : decode cX6_file 10 = .ok (.iload_n 2, 1) := by decide +kernel
theorem dX6_file_11 : decode cX6_file 11 = .ok (.tableswitch 103 0 5 #[37, 50, 57, 70, 83, 90], 37) := by decide +kernel
theorem dX6_file_48 : decode cX6_file 48 = .ok (.aload_n 0, 1) := by decide +kernel
theorem dX6_file_49 : decode cX6_file 49 = .ok (.getfield 7, 3) := by decide +kernel
theorem dX6_file_52 : decode cX6_file 52 = .ok (.iconst 0, 1) := by decide +kernel
theorem dX6_file_53 : decode cX6_file 53 = .ok (.iload_n 1, 1) := by decide +kernel
theorem dX6_file_54 : decode cX6_file 54 = .ok (.invokestatic 28, 3) := by decide +kernel
theorem dX6_file_57 : decode cX6_file 57 = .ok (.iconst 2, 1) := by decide +kernel
theorem dX6_file_58 : decode cX6_file 58 = .ok (.iadd, 1) := by decide +kernel
theorem dX6_file_59 : decode cX6_file 59 = .ok (.iaload, 1) := by decide +kernel
theorem dX6_file_60 : decode cX6_file 60 = .ok (.ireturn, 1) := by decide +kernel
theorem dX6_file_61 : decode cX6_file 61 = .ok (.aload_n 0, 1) := by decide +kernel
theorem dX6_file_62 : decode cX6_file 62 = .ok (.iconst 0, 1) := by decide +kernel
theorem dX6_file_63 : decode cX6_file 63 = .ok (.iload_n 1, 1) := by decide +kernel
theorem dX6_file_64 : decode cX6_file 64 = .ok (.invokevirtual 47, 3) := by decide +kernel
theorem dX6_file_67 : decode cX6_file 67 = .ok (.ireturn, 1) := by decide +kernel
theorem dX6_file_68 : decode cX6_file 68 = .ok (.aload_n 0, 1) := by decide +kernel
theorem dX6_file_69 : decode cX6_file 69 = .ok (.getfield 7, 3) := by decide +kernel
theorem dX6_file_72 : decode cX6_file 72 = .ok (.iconst 0, 1) := by decide +kernel
theorem dX6_file_73 : decode cX6_file 73 = .ok (.iload_n 1, 1) := by decide +kernel
theorem dX6_file_74 : decode cX6_file 74 = .ok (.invokestatic 28, 3) := by decide +kernel
theorem dX6_file_77 : decode cX6_file 77 = .ok (.iconst 3, 1) := by decide +kernel
theorem dX6_file_78 : decode cX6_file 78 = .ok (.iadd, 1) := by decide +kernel
theorem dX6_file_79 : decode cX6_file 79 = .ok (.iaload, 1) := by decide +kernel
theorem dX6_file_80 : decode cX6_file 80 = .ok (.ireturn, 1) := by decide +kernel
theorem dX6_file_81 : decode cX6_file 81 = .ok (.aload_n 0, 1) := by decide +kernel
theorem dX6_file_82 : decode cX6_file 82 = .ok (.getfield 7, 3) := by decide +kernel
theorem dX6_file_85 : decode cX6_file 85 = .ok (.iconst 0, 1) := by decide +kernel
theorem dX6_file_86 : decode cX6_file 86 = .ok (.iload_n 1, 1) := by decide +kernel
theorem dX6_file_87 : decode cX6_file 87 = .ok (.invokestatic 28, 3) := by decide +kernel
theorem dX6_file_90 : decode cX6_file 90 = .ok (.iconst 4, 1) := by decide +kernel
theorem dX6_file_91 : decode cX6_file 91 = .ok (.iadd, 1) := by decide +kernel
theorem dX6_file_92 : decode cX6_file 92 = .ok (.iaload, 1) := by decide +kernel
theorem dX6_file_93 : decode cX6_file 93 = .ok (.ireturn, 1) := by decide +kernel
theorem dX6_file_94 : decode cX6_file 94 = .ok (.aload_n 0, 1) := by decide +kernel
theorem dX6_file_95 : decode cX6_file 95 = .ok (.iconst 0, 1) := by decide +kernel
theorem dX6_file_96 : decode cX6_file 96 = .ok (.iload_n 1, 1) := by decide +kernel
theorem dX6_file_97 : decode cX6_file 97 = .ok (.invokevirtual 80, 3) := by decide +kernel
theorem dX6_file_100 : decode cX6_file 100 = .ok (.ireturn, 1) := by decide +kernel
theorem dX6_file_101 : decode cX6_file 101 = .ok (.aload_n 0, 1) := by decide +kernel
theorem dX6_file_102 : decode cX6_file 102 = .ok (.getfield 7, 3) := by decide +kernel
theorem dX6_file_105 : decode cX6_file 105 = .ok (.iconst 0, 1) := by decide +kernel
theorem dX6_file_106 : decode cX6_file 106 = .ok (.iload_n 1, 1) := by decide +kernel
theorem dX6_file_107 : decode cX6_file 107 = .ok (.invokestatic 28, 3) := by decide +kernel
theorem dX6_file_110 : decode cX6_file 110 = .ok (.iconst 5, 1) := by decide +kernel
theorem dX6_file_111 : decode cX6_file 111 = .ok (.iadd, 1) := by decide +kernel
theorem dX6_file_112 : decode cX6_file 112 = .ok (.iaload, 1) := by decide +kernel
theorem dX6_file_113 : decode cX6_file 113 = .ok (.ireturn, 1) := by decide +kernel
theorem dX6_file_114 : decode cX6_file 114 = .ok (.bipush (-2), 2) := by decide +kernel
theorem dX6_file_116 : decode cX6_file 116 = .ok (.ireturn, 1) := by decide +kernel
set_option maxRecDepth 20000 in
theorem ggX6_extent_X6_isThere : GoodIn wsX6_extent wsX6_isThere := goodIn_r _ [6, 1, 7, 8, 5, 9, 10, 11, 12, 20, 21, 22, 23, 24, 25, 26, 27, 28, 29] (by decide +kernel) (by decide +kernel)
set_option maxRecDepth 20000 in
theorem gX6_extent_X6_isThere : GoodIn wsX6_extent (wsV RX6 83 RX6 yX6_isThere wsX6_isThere) := goodIn_app (goodIn_of _ (by decide +kernel)) ggX6_extent_X6_isThere
set_option maxRecDepth 20000 in
theorem ggX6_extent_X6_in : GoodIn wsX6_extent wsX6_in := goodIn_r _ [9] (by decide +kernel) (by decide +kernel)
set_option maxRecDepth 20000 in
theorem gX6_extent_X6_in : GoodIn wsX6_extent (va_wsS RX6 24 yX6_in wsX6_in) := goodIn_app (goodIn_of _ (by decide +kernel)) ggX6_extent_X6_in
set_option maxRecDepth 20000 in
theorem ggX6_extent_X6_at : GoodIn wsX6_extent wsX6_at := goodIn_r _ [12] (by decide +kernel) (by decide +kernel)
set_option maxRecDepth 20000 in
theorem gX6_extent_X6_at : GoodIn wsX6_extent (va_wsS RX6 28 yX6_at wsX6_at) := goodIn_app (goodIn_of _ (by decide +kernel)) ggX6_extent_X6_at
set_option maxRecDepth 20000 in
theorem ggX6_extent_X6_blockOf : GoodIn wsX6_extent wsX6_blockOf := goodIn_r _ [16, 1, 20, 21, 22, 23, 24, 25, 26, 27, 28, 29] (by decide +kernel) (by decide +kernel)
set_option maxRecDepth 20000 in
theorem gX6_extent_X6_blockOf : GoodIn wsX6_extent (wsV RX6 40 RX6 yX6_blockOf wsX6_blockOf) := goodIn_app (goodIn_of _ (by decide +kernel)) ggX6_extent_X6_blockOf
set_option maxRecDepth 20000 in
theorem ggX6_extent_X6_flag : GoodIn wsX6_extent wsX6_flag := goodIn_r _ [19] (by decide +kernel) (by decide +kernel)
set_option maxRecDepth 20000 in
theorem gX6_extent_X6_flag : GoodIn wsX6_extent (va_wsS RX6 36 yX6_flag wsX6_flag) := goodIn_app (goodIn_of _ (by decide +kernel)) ggX6_extent_X6_flag
theorem dX6_extent_0 : decode cX6_extent 0 = .ok (.aload_n 0, 1) := by decide +kernel
theorem dX6_extent_1 : decode cX6_extent 1 = .ok (.iload_n 1, 1) := by decide +kernel
theorem dX6_extent_2 : decode cX6_extent 2 = .ok (.invokevirtual 83, 3) := by decide +kernel
theorem dX6_extent_5 : decode cX6_extent 5 = .ok (.ifCond .ne 5, 3) := by decide +kernel
theorem dX6_extent_8 : decode cX6_extent 8 = .ok (.iconst (-1), 1) := by decide +kernel
theorem dX6_extent_9 : decode cX6_extent 9 = .ok (.ireturn, 1) := by decide +kernel
theorem dX6_extent_10 : decode cX6_extent 10 = .ok (.iload_n 2, 1) := by decide +kernel
theorem dX6_extent_11 : decode cX6_extent 11 = .ok (.ifCond .lt 12, 3) := by decide +kernel
theorem dX6_extent_14 : decode cX6_extent 14 = .ok (.iload_n 3, 1) := by decide +kernel
theorem dX6_extent_15 : decode cX6_extent 15 = .ok (.iconst 0, 1) := by decide +kernel
theorem dX6_extent_16 : decode cX6_extent 16 = .ok (.iconst 1, 1) := by decide +kernel
theorem dX6_extent_17 : decode cX6_extent 17 = .ok (.invokestatic 24, 3) := by decide +kernel
theorem dX6_extent_20 : decode cX6_extent 20 = .ok (.ifCond .ne 6, 3) := by decide +kernel
theorem dX6_extent_23 : decode cX6_extent 23 = .ok (.bipush (-2), 2) := by decide +kernel
theorem dX6_extent_25 : decode cX6_extent 25 = .ok (.ireturn, 1) := by decide +kernel
theorem dX6_extent_26 : decode cX6_extent 26 = .ok (.iconst (-1), 1) := by decide +kernel
theorem dX6_extent_27 : decode cX6_extent 27 = .ok (.istore 4, 2) := by decide +kernel
theorem dX6_extent_29 : decode cX6_extent 29 = .ok (.bipush (-5), 2) := by decide +kernel
theorem dX6_extent_31 : decode cX6_extent 31 = .ok (.istore 5, 2) := by decide +kernel
theorem dX6_extent_33 : decode cX6_extent 33 = .ok (.iconst 0, 1) := by decide +kernel
theorem dX6_extent_34 : decode cX6_extent 34 = .ok (.istore 6, 2) := by decide +kernel
theorem dX6_extent_36 : decode cX6_extent 36 = .ok (.bipush (-5), 2) := by decide +kernel
theorem dX6_extent_38 : decode cX6_extent 38 = .ok (.istore 7, 2) := by decide +kernel
theorem dX6_extent_40 : decode cX6_extent 40 = .ok (.iconst 0, 1) := by decide +kernel
theorem dX6_extent_41 : decode cX6_extent 41 = .ok (.istore 8, 2) := by decide +kernel
theorem dX6_extent_43 : decode cX6_extent 43 = .ok (.iload 8, 2) := by decide +kernel
theorem dX6_extent_45 : decode cX6_extent 45 = .ok (.aload_n 0, 1) := by decide +kernel
theorem dX6_extent_46 : decode cX6_extent 46 = .ok (.getfield 7, 3) := by decide +kernel
theorem dX6_extent_49 : decode cX6_extent 49 = .ok (.iconst 0, 1) := by decide +kernel
theorem dX6_extent_50 : decode cX6_extent 50 = .ok (.iload_n 1, 1) := by decide +kernel
theorem dX6_extent_51 : decode cX6_extent 51 = .ok (.invokestatic 28, 3) := by decide +kernel
theorem dX6_extent_54 : decode cX6_extent 54 = .ok (.iconst 1, 1) := by decide +kernel
theorem dX6_extent_55 : decode cX6_extent 55 = .ok (.iadd, 1) := by decide +kernel
theorem dX6_extent_56 : decode cX6_extent 56 = .ok (.iaload, 1) := by decide +kernel
theorem dX6_extent_57 : decode cX6_extent 57 = .ok (.if_icmp .ge 93, 3) := by decide +kernel
theorem dX6_extent_60 : decode cX6_extent 60 = .ok (.aload_n 0, 1) := by decide +kernel
theorem dX6_extent_61 : decode cX6_extent 61 = .ok (.iconst 0, 1) := by decide +kernel
theorem dX6_extent_62 : decode cX6_extent 62 = .ok (.iload_n 1, 1) := by decide +kernel
theorem dX6_extent_63 : decode cX6_extent 63 = .ok (.iload 8, 2) := by decide +kernel
theorem dX6_extent_65 : decode cX6_extent 65 = .ok (.invokevirtual 40, 3) := by decide +kernel
theorem dX6_extent_68 : decode cX6_extent 68 = .ok (.istore 9, 2) := by decide +kernel
theorem dX6_extent_70 : decode cX6_extent 70 = .ok (.iload 8, 2) := by decide +kernel
theorem dX6_extent_72 : decode cX6_extent 72 = .ok (.ifCond .eq 12, 3) := by decide +kernel
theorem dX6_extent_75 : decode cX6_extent 75 = .ok (.iload 9, 2) := by decide +kernel
theorem dX6_extent_77 : decode cX6_extent 77 = .ok (.iload 7, 2) := by decide +kernel
theorem dX6_extent_79 : decode cX6_extent 79 = .ok (.iconst 1, 1) := by decide +kernel
theorem dX6_extent_80 : decode cX6_extent 80 = .ok (.iadd, 1) := by decide +kernel
theorem dX6_extent_81 : decode cX6_extent 81 = .ok (.if_icmp .eq 7, 3) := by decide +kernel
theorem dX6_extent_84 : decode cX6_extent 84 = .ok (.iconst 1, 1) := by decide +kernel
theorem dX6_extent_85 : decode cX6_extent 85 = .ok (.goto 4, 3) := by decide +kernel
theorem dX6_extent_88 : decode cX6_extent 88 = .ok (.iconst 0, 1) := by decide +kernel
theorem dX6_extent_89 : decode cX6_extent 89 = .ok (.istore 10, 2) := by decide +kernel
theorem dX6_extent_91 : decode cX6_extent 91 = .ok (.iload 4, 2) := by decide +kernel
theorem dX6_extent_93 : decode cX6_extent 93 = .ok (.iload 10, 2) := by decide +kernel
theorem dX6_extent_95 : decode cX6_extent 95 = .ok (.invokestatic 36, 3) := by decide +kernel
theorem dX6_extent_98 : decode cX6_extent 98 = .ok (.iadd, 1) := by decide +kernel
theorem dX6_extent_99 : decode cX6_extent 99 = .ok (.istore 4, 2) := by decide +kernel
theorem dX6_extent_101 : decode cX6_extent 101 = .ok (.iload 10, 2) := by decide +kernel
theorem dX6_extent_103 : decode cX6_extent 103 = .ok (.ifCond .eq 14, 3) := by decide +kernel
theorem dX6_extent_106 : decode cX6_extent 106 = .ok (.iload 4, 2) := by decide +kernel
theorem dX6_extent_108 : decode cX6_extent 108 = .ok (.iload_n 2, 1) := by decide +kernel
theorem dX6_extent_109 : decode cX6_extent 109 = .ok (.if_icmp .ne 8, 3) := by decide +kernel
theorem dX6_extent_112 : decode cX6_extent 112 = .ok (.iload 9, 2) := by decide +kernel
theorem dX6_extent_114 : decode cX6_extent 114 = .ok (.goto 5, 3) := by decide +kernel
theorem dX6_extent_117 : decode cX6_extent 117 = .ok (.iload 5, 2) := by decide +kernel
theorem dX6_extent_119 : decode cX6_extent 119 = .ok (.istore 5, 2) := by decide +kernel
theorem dX6_extent_121 : decode cX6_extent 121 = .ok (.iload 6, 2) := by decide +kernel
theorem dX6_extent_123 : decode cX6_extent 123 = .ok (.iload 4, 2) := by decide +kernel
theorem dX6_extent_125 : decode cX6_extent 125 = .ok (.iload_n 2, 1) := by decide +kernel
theorem dX6_extent_126 : decode cX6_extent 126 = .ok (.if_icmp .ne 7, 3) := by decide +kernel
theorem dX6_extent_129 : decode cX6_extent 129 = .ok (.iconst 1, 1) := by decide +kernel
theorem dX6_extent_130 : decode cX6_extent 130 = .ok (.goto 4, 3) := by decide +kernel
theorem dX6_extent_133 : decode cX6_extent 133 = .ok (.iconst 0, 1) := by decide +kernel
theorem dX6_extent_134 : decode cX6_extent 134 = .ok (.invokestatic 36, 3) := by decide +kernel
theorem dX6_extent_137 : decode cX6_extent 137 = .ok (.iadd, 1) := by decide +kernel
theorem dX6_extent_138 : decode cX6_extent 138 = .ok (.istore 6, 2) := by decide +kernel
theorem dX6_extent_140 : decode cX6_extent 140 = .ok (.iload 9, 2) := by decide +kernel
theorem dX6_extent_142 : decode cX6_extent 142 = .ok (.istore 7, 2) := by decide +kernel
theorem dX6_extent_144 : decode cX6_extent 144 = .ok (.iinc 8 1, 3) := by decide +kernel
theorem dX6_extent_147 : decode cX6_extent 147 = .ok (.goto (-104), 3) := by decide +kernel
theorem dX6_extent_150 : decode cX6_extent 150 = .ok (.iload 5, 2) := by decide +kernel
theorem dX6_extent_152 : decode cX6_extent 152 = .ok (.bipush (-5), 2) := by decide +kernel
theorem dX6_extent_154 : decode cX6_extent 154 = .ok (.if_icmp .ne 8, 3) := by decide +kernel
theorem dX6_extent_157 : decode cX6_extent 157 = .ok (.bipush (-5), 2) := by decide +kernel
theorem dX6_extent_159 : decode cX6_extent 159 = .ok (.goto 14, 3) := by decide +kernel
theorem dX6_extent_162 : decode cX6_extent 162 = .ok (.iload_n 3, 1) := by decide +kernel
theorem dX6_extent_163 : decode cX6_extent 163 = .ok (.ifCond .ne 8, 3) := by decide +kernel
theorem dX6_extent_166 : decode cX6_extent 166 = .ok (.iload 5, 2) := by decide +kernel
theorem dX6_extent_168 : decode cX6_extent 168 = .ok (.goto 5, 3) := by decide +kernel
theorem dX6_extent_171 : decode cX6_extent 171 = .ok (.iload 6, 2) := by decide +kernel
theorem dX6_extent_173 : decode cX6_extent 173 = .ok (.ireturn, 1) := by decide +kernel
set_option maxRecDepth 20000 in
theorem ggX6_run_X6_in : GoodIn wsX6_run wsX6_in := goodIn_r _ [4] (by decide +kernel) (by decide +kernel)
set_option maxRecDepth 20000 in
theorem gX6_run_X6_in : GoodIn wsX6_run (va_wsS RX6 24 yX6_in wsX6_in) := goodIn_app (goodIn_of _ (by decide +kernel)) ggX6_run_X6_in
set_option maxRecDepth 20000 in
theorem ggX6_run_X6_isRunStart : GoodIn wsX6_run wsX6_isRunStart := goodIn_r _ [8, 9, 10, 11, 3, 12, 13, 18, 19, 20, 21, 22, 23, 24, 25, 26, 27] (by decide +kernel) (by decide +kernel)
set_option maxRecDepth 20000 in
theorem gX6_run_X6_isRunStart : GoodIn wsX6_run (wsV RX6 50 RX6 yX6_isRunStart wsX6_isRunStart) := goodIn_app (goodIn_of _ (by decide +kernel)) ggX6_run_X6_isRunStart
set_option maxRecDepth 20000 in
theorem ggX6_run_X6_runLength : GoodIn wsX6_run wsX6_runLength := goodIn_r _ [17, 9, 10, 11, 3, 12, 13, 18, 19, 20, 21, 22, 23, 24, 25, 26, 27] (by decide +kernel) (by decide +kernel)
set_option maxRecDepth 20000 in
theorem gX6_run_X6_runLength : GoodIn wsX6_run (wsV RX6 53 RX6 yX6_runLength wsX6_runLength) := goodIn_app (goodIn_of _ (by decide +kernel)) ggX6_run_X6_runLength
theorem dX6_run_0 : decode cX6_run 0 = .ok (.iload_n 1, 1) := by decide +kernel
theorem dX6_run_1 : decode cX6_run 1 = .ok (.ifCond .lt 12, 3) := by decide +kernel
theorem dX6_run_4 : decode cX6_run 4 = .ok (.iload_n 2, 1) := by decide +kernel
theorem dX6_run_5 : decode cX6_run 5 = .ok (.iconst 0, 1) := by decide +kernel
theorem dX6_run_6 : decode cX6_run 6 = .ok (.iconst 1, 1) := by decide +kernel
theorem dX6_run_7 : decode cX6_run 7 = .ok (.invokestatic 24, 3) := by decide +kernel
theorem dX6_run_10 : decode cX6_run 10 = .ok (.ifCond .ne 6, 3) := by decide +kernel
theorem dX6_run_13 : decode cX6_run 13 = .ok (.bipush (-2), 2) := by decide +kernel
theorem dX6_run_15 : decode cX6_run 15 = .ok (.ireturn, 1) := by decide +kernel
theorem dX6_run_16 : decode cX6_run 16 = .ok (.iload_n 1, 1) := by decide +kernel
theorem dX6_run_17 : decode cX6_run 17 = .ok (.istore_n 3, 1) := by decide +kernel
theorem dX6_run_18 : decode cX6_run 18 = .ok (.iconst 0, 1) := by decide +kernel
theorem dX6_run_19 : decode cX6_run 19 = .ok (.istore 4, 2) := by decide +kernel
theorem dX6_run_21 : decode cX6_run 21 = .ok (.iload 4, 2) := by decide +kernel
theorem dX6_run_23 : decode cX6_run 23 = .ok (.bipush 64, 2) := by decide +kernel
theorem dX6_run_25 : decode cX6_run 25 = .ok (.if_icmp .ge 43, 3) := by decide +kernel
theorem dX6_run_28 : decode cX6_run 28 = .ok (.aload_n 0, 1) := by decide +kernel
theorem dX6_run_29 : decode cX6_run 29 = .ok (.iconst 0, 1) := by decide +kernel
theorem dX6_run_30 : decode cX6_run 30 = .ok (.iload 4, 2) := by decide +kernel
theorem dX6_run_32 : decode cX6_run 32 = .ok (.invokevirtual 50, 3) := by decide +kernel
theorem dX6_run_35 : decode cX6_run 35 = .ok (.ifCond .eq 27, 3) := by decide +kernel
theorem dX6_run_38 : decode cX6_run 38 = .ok (.iload_n 3, 1) := by decide +kernel
theorem dX6_run_39 : decode cX6_run 39 = .ok (.ifCond .ne 20, 3) := by decide +kernel
theorem dX6_run_42 : decode cX6_run 42 = .ok (.iload_n 2, 1) := by decide +kernel
theorem dX6_run_43 : decode cX6_run 43 = .ok (.ifCond .ne 8, 3) := by decide +kernel
theorem dX6_run_46 : decode cX6_run 46 = .ok (.iload 4, 2) := by decide +kernel
theorem dX6_run_48 : decode cX6_run 48 = .ok (.goto 10, 3) := by decide +kernel
theorem dX6_run_51 : decode cX6_run 51 = .ok (.aload_n 0, 1) := by decide +kernel
theorem dX6_run_52 : decode cX6_run 52 = .ok (.iconst 0, 1) := by decide +kernel
theorem dX6_run_53 : decode cX6_run 53 = .ok (.iload 4, 2) := by decide +kernel
theorem dX6_run_55 : decode cX6_run 55 = .ok (.invokevirtual 53, 3) := by decide +kernel
theorem dX6_run_58 : decode cX6_run 58 = .ok (.ireturn, 1) := by decide +kernel
theorem dX6_run_59 : decode cX6_run 59 = .ok (.iinc 3 (-1), 3) := by decide +kernel
theorem dX6_run_62 : decode cX6_run 62 = .ok (.iinc 4 1, 3) := by decide +kernel
theorem dX6_run_65 : decode cX6_run 65 = .ok (.goto (-44), 3) := by decide +kernel
theorem dX6_run_68 : decode cX6_run 68 = .ok (.bipush (-5), 2) := by decide +kernel
theorem dX6_run_70 : decode cX6_run 70 = .ok (.ireturn, 1) := by decide +kernel
set_option maxRecDepth 20000 in
theorem ggX6_read_X6_isThere : GoodIn wsX6_read wsX6_isThere := goodIn_r _ [6, 1, 7, 8, 5, 9, 10, 11, 12, 17, 18, 19, 20, 21, 22, 23, 24, 25, 26] (by decide +kernel) (by decide +kernel)
set_option maxRecDepth 20000 in
theorem gX6_read_X6_isThere : GoodIn wsX6_read (wsV RX6 83 RX6 yX6_isThere wsX6_isThere) := goodIn_app (goodIn_of _ (by decide +kernel)) ggX6_read_X6_isThere
set_option maxRecDepth 20000 in
theorem ggX6_read_X6_in : GoodIn wsX6_read wsX6_in := goodIn_r _ [9] (by decide +kernel) (by decide +kernel)
set_option maxRecDepth 20000 in
theorem gX6_read_X6_in : GoodIn wsX6_read (va_wsS RX6 24 yX6_in wsX6_in) := goodIn_app (goodIn_of _ (by decide +kernel)) ggX6_read_X6_in
set_option maxRecDepth 20000 in
theorem ggX6_read_X6_at : GoodIn wsX6_read wsX6_at := goodIn_r _ [12] (by decide +kernel) (by decide +kernel)
set_option maxRecDepth 20000 in
theorem gX6_read_X6_at : GoodIn wsX6_read (va_wsS RX6 28 yX6_at wsX6_at) := goodIn_app (goodIn_of _ (by decide +kernel)) ggX6_read_X6_at
set_option maxRecDepth 20000 in
theorem ggX6_read_X6_blockOf : GoodIn wsX6_read wsX6_blockOf := goodIn_r _ [16, 1, 17, 18, 19, 20, 21, 22, 23, 24, 25, 26] (by decide +kernel) (by decide +kernel)
set_option maxRecDepth 20000 in
theorem gX6_read_X6_blockOf : GoodIn wsX6_read (wsV RX6 40 RX6 yX6_blockOf wsX6_blockOf) := goodIn_app (goodIn_of _ (by decide +kernel)) ggX6_read_X6_blockOf
theorem dX6_read_0 : decode cX6_read 0 = .ok (.aload_n 0, 1) := by decide +kernel
theorem dX6_read_1 : decode cX6_read 1 = .ok (.iload_n 1, 1) := by decide +kernel
theorem dX6_read_2 : decode cX6_read 2 = .ok (.invokevirtual 83, 3) := by decide +kernel
theorem dX6_read_5 : decode cX6_read 5 = .ok (.ifCond .ne 5, 3) := by decide +kernel
theorem dX6_read_8 : decode cX6_read 8 = .ok (.iconst (-1), 1) := by decide +kernel
theorem dX6_read_9 : decode cX6_read 9 = .ok (.ireturn, 1) := by decide +kernel
theorem dX6_read_10 : decode cX6_read 10 = .ok (.iload_n 2, 1) := by decide +kernel
theorem dX6_read_11 : decode cX6_read 11 = .ok (.iconst 0, 1) := by decide +kernel
theorem dX6_read_12 : decode cX6_read 12 = .ok (.bipush 63, 2) := by decide +kernel
theorem dX6_read_14 : decode cX6_read 14 = .ok (.invokestatic 24, 3) := by decide +kernel
theorem dX6_read_17 : decode cX6_read 17 = .ok (.ifCond .eq 23, 3) := by decide +kernel
theorem dX6_read_20 : decode cX6_read 20 = .ok (.iload_n 3, 1) := by decide +kernel
theorem dX6_read_21 : decode cX6_read 21 = .ok (.iconst 1, 1) := by decide +kernel
theorem dX6_read_22 : decode cX6_read 22 = .ok (.bipush 64, 2) := by decide +kernel
theorem dX6_read_24 : decode cX6_read 24 = .ok (.invokestatic 24, 3) := by decide +kernel
theorem dX6_read_27 : decode cX6_read 27 = .ok (.ifCond .eq 13, 3) := by decide +kernel
theorem dX6_read_30 : decode cX6_read 30 = .ok (.iload 4, 2) := by decide +kernel
theorem dX6_read_32 : decode cX6_read 32 = .ok (.iconst 0, 1) := by decide +kernel
theorem dX6_read_33 : decode cX6_read 33 = .ok (.iconst 1, 1) := by decide +kernel
theorem dX6_read_34 : decode cX6_read 34 = .ok (.invokestatic 24, 3) := by decide +kernel
theorem dX6_read_37 : decode cX6_read 37 = .ok (.ifCond .ne 6, 3) := by decide +kernel
theorem dX6_read_40 : decode cX6_read 40 = .ok (.bipush (-2), 2) := by decide +kernel
theorem dX6_read_42 : decode cX6_read 42 = .ok (.ireturn, 1) := by decide +kernel
theorem dX6_read_43 : decode cX6_read 43 = .ok (.aload_n 0, 1) := by decide +kernel
theorem dX6_read_44 : decode cX6_read 44 = .ok (.getfield 7, 3) := by decide +kernel
theorem dX6_read_47 : decode cX6_read 47 = .ok (.iconst 0, 1) := by decide +kernel
theorem dX6_read_48 : decode cX6_read 48 = .ok (.iload_n 1, 1) := by decide +kernel
theorem dX6_read_49 : decode cX6_read 49 = .ok (.invokestatic 28, 3) := by decide +kernel
theorem dX6_read_52 : decode cX6_read 52 = .ok (.iconst 2, 1) := by decide +kernel
theorem dX6_read_53 : decode cX6_read 53 = .ok (.iadd, 1) := by decide +kernel
theorem dX6_read_54 : decode cX6_read 54 = .ok (.iaload, 1) := by decide +kernel
theorem dX6_read_55 : decode cX6_read 55 = .ok (.istore 5, 2) := by decide +kernel
theorem dX6_read_57 : decode cX6_read 57 = .ok (.iload_n 2, 1) := by decide +kernel
theorem dX6_read_58 : decode cX6_read 58 = .ok (.iload 5, 2) := by decide +kernel
theorem dX6_read_60 : decode cX6_read 60 = .ok (.if_icmp .lt 6, 3) := by decide +kernel
theorem dX6_read_63 : decode cX6_read 63 = .ok (.bipush (-5), 2) := by decide +kernel
theorem dX6_read_65 : decode cX6_read 65 = .ok (.ireturn, 1) := by decide +kernel
theorem dX6_read_66 : decode cX6_read 66 = .ok (.iconst 0, 1) := by decide +kernel
theorem dX6_read_67 : decode cX6_read 67 = .ok (.istore 6, 2) := by decide +kernel
theorem dX6_read_69 : decode cX6_read 69 = .ok (.iconst 0, 1) := by decide +kernel
theorem dX6_read_70 : decode cX6_read 70 = .ok (.istore 7, 2) := by decide +kernel
theorem dX6_read_72 : decode cX6_read 72 = .ok (.iload_n 2, 1) := by decide +kernel
theorem dX6_read_73 : decode cX6_read 73 = .ok (.istore 8, 2) := by decide +kernel
theorem dX6_read_75 : decode cX6_read 75 = .ok (.iload 8, 2) := by decide +kernel
theorem dX6_read_77 : decode cX6_read 77 = .ok (.iload 5, 2) := by decide +kernel
theorem dX6_read_79 : decode cX6_read 79 = .ok (.if_icmp .ge 36, 3) := by decide +kernel
theorem dX6_read_82 : decode cX6_read 82 = .ok (.iload 6, 2) := by decide +kernel
theorem dX6_read_84 : decode cX6_read 84 = .ok (.iload_n 3, 1) := by decide +kernel
theorem dX6_read_85 : decode cX6_read 85 = .ok (.if_icmp .ge 30, 3) := by decide +kernel
theorem dX6_read_88 : decode cX6_read 88 = .ok (.iload 7, 2) := by decide +kernel
theorem dX6_read_90 : decode cX6_read 90 = .ok (.aload_n 0, 1) := by decide +kernel
theorem dX6_read_91 : decode cX6_read 91 = .ok (.getfield 7, 3) := by decide +kernel
theorem dX6_read_94 : decode cX6_read 94 = .ok (.aload_n 0, 1) := by decide +kernel
theorem dX6_read_95 : decode cX6_read 95 = .ok (.iconst 0, 1) := by decide +kernel
theorem dX6_read_96 : decode cX6_read 96 = .ok (.iload_n 1, 1) := by decide +kernel
theorem dX6_read_97 : decode cX6_read 97 = .ok (.iload 8, 2) := by decide +kernel
theorem dX6_read_99 : decode cX6_read 99 = .ok (.invokevirtual 40, 3) := by decide +kernel
theorem dX6_read_102 : decode cX6_read 102 = .ok (.iaload, 1) := by decide +kernel
theorem dX6_read_103 : decode cX6_read 103 = .ok (.iadd, 1) := by decide +kernel
theorem dX6_read_104 : decode cX6_read 104 = .ok (.istore 7, 2) := by decide +kernel
theorem dX6_read_106 : decode cX6_read 106 = .ok (.iinc 6 1, 3) := by decide +kernel
theorem dX6_read_109 : decode cX6_read 109 = .ok (.iinc 8 1, 3) := by decide +kernel
theorem dX6_read_112 : decode cX6_read 112 = .ok (.goto (-37), 3) := by decide +kernel
theorem dX6_read_115 : decode cX6_read 115 = .ok (.iload 4, 2) := by decide +kernel
theorem dX6_read_117 : decode cX6_read 117 = .ok (.ifCond .ne 8, 3) := by decide +kernel
theorem dX6_read_120 : decode cX6_read 120 = .ok (.iload 7, 2) := by decide +kernel
theorem dX6_read_122 : decode cX6_read 122 = .ok (.goto 5, 3) := by decide +kernel
theorem dX6_read_125 : decode cX6_read 125 = .ok (.iload 6, 2) := by decide +kernel
theorem dX6_read_127 : decode cX6_read 127 = .ok (.ireturn, 1) := by decide +kernel
set_option maxRecDepth 20000 in
theorem ggX6_allExtents_X6_isThere : GoodIn wsX6_allExtents wsX6_isThere := goodIn_r _ [5, 6, 7, 8, 4, 9, 10, 11, 12, 24, 25, 26, 27, 28, 29, 30, 31, 32, 33] (by decide +kernel) (by decide +kernel)
set_option maxRecDepth 20000 in
theorem gX6_allExtents_X6_isThere : GoodIn wsX6_allExtents (wsV RX6 83 RX6 yX6_isThere wsX6_isThere) := goodIn_app (goodIn_of _ (by decide +kernel)) ggX6_allExtents_X6_isThere
set_option maxRecDepth 20000 in
theorem ggX6_allExtents_X6_extents : GoodIn wsX6_allExtents wsX6_extents := goodIn_r _ [16, 6, 10, 11, 4, 12, 17, 18, 19, 20, 21, 22, 23, 24, 25, 26, 27, 28, 29, 30, 31, 32, 33] (by decide +kernel) (by decide +kernel)
set_option maxRecDepth 20000 in
theorem gX6_allExtents_X6_extents : GoodIn wsX6_allExtents (wsV RX6 80 RX6 yX6_extents wsX6_extents) := goodIn_app (goodIn_of _ (by decide +kernel)) ggX6_allExtents_X6_extents
theorem dX6_allExtents_0 : decode cX6_allExtents 0 = .ok (.iconst 0, 1) := by decide +kernel
theorem dX6_allExtents_1 : decode cX6_allExtents 1 = .ok (.istore_n 1, 1) := by decide +kernel
theorem dX6_allExtents_2 : decode cX6_allExtents 2 = .ok (.iconst 0, 1) := by decide +kernel
theorem dX6_allExtents_3 : decode cX6_allExtents 3 = .ok (.istore_n 2, 1) := by decide +kernel
theorem dX6_allExtents_4 : decode cX6_allExtents 4 = .ok (.iload_n 2, 1) := by decide +kernel
theorem dX6_allExtents_5 : decode cX6_allExtents 5 = .ok (.bipush 8, 2) := by decide +kernel
theorem dX6_allExtents_7 : decode cX6_allExtents 7 = .ok (.if_icmp .ge 30, 3) := by decide +kernel
theorem dX6_allExtents_10 : decode cX6_allExtents 10 = .ok (.iload_n 1, 1) := by decide +kernel
theorem dX6_allExtents_11 : decode cX6_allExtents 11 = .ok (.aload_n 0, 1) := by decide +kernel
theorem dX6_allExtents_12 : decode cX6_allExtents 12 = .ok (.iload_n 2, 1) := by decide +kernel
theorem dX6_allExtents_13 : decode cX6_allExtents 13 = .ok (.invokevirtual 83, 3) := by decide +kernel
theorem dX6_allExtents_16 : decode cX6_allExtents 16 = .ok (.ifCond .eq 12, 3) := by decide +kernel
theorem dX6_allExtents_19 : decode cX6_allExtents 19 = .ok (.aload_n 0, 1) := by decide +kernel
theorem dX6_allExtents_20 : decode cX6_allExtents 20 = .ok (.iconst 0, 1) := by decide +kernel
theorem dX6_allExtents_21 : decode cX6_allExtents 21 = .ok (.iload_n 2, 1) := by decide +kernel
theorem dX6_allExtents_22 : decode cX6_allExtents 22 = .ok (.invokevirtual 80, 3) := by decide +kernel
theorem dX6_allExtents_25 : decode cX6_allExtents 25 = .ok (.goto 4, 3) := by decide +kernel
theorem dX6_allExtents_28 : decode cX6_allExtents 28 = .ok (.iconst 0, 1) := by decide +kernel
theorem dX6_allExtents_29 : decode cX6_allExtents 29 = .ok (.iadd, 1) := by decide +kernel
theorem dX6_allExtents_30 : decode cX6_allExtents 30 = .ok (.istore_n 1, 1) := by decide +kernel
theorem dX6_allExtents_31 : decode cX6_allExtents 31 = .ok (.iinc 2 1, 3) := by decide +kernel
theorem dX6_allExtents_34 : decode cX6_allExtents 34 = .ok (.goto (-30), 3) := by decide +kernel
theorem dX6_allExtents_37 : decode cX6_allExtents 37 = .ok (.iload_n 1, 1) := by decide +kernel
theorem dX6_allExtents_38 : decode cX6_allExtents 38 = .ok (.ireturn, 1) := by decide +kernel
set_option maxRecDepth 20000 in
theorem ggX6_lentOfClosed_X6_isThere : GoodIn wsX6_lentOfClosed wsX6_isThere := goodIn_r _ [5, 6, 7, 8, 4, 9, 10, 11, 12, 21, 22, 23, 24, 25, 26, 27, 28, 29, 30] (by decide +kernel) (by decide +kernel)
set_option maxRecDepth 20000 in
theorem gX6_lentOfClosed_X6_isThere : GoodIn wsX6_lentOfClosed (wsV RX6 83 RX6 yX6_isThere wsX6_isThere) := goodIn_app (goodIn_of _ (by decide +kernel)) ggX6_lentOfClosed_X6_isThere
set_option maxRecDepth 20000 in
theorem ggX6_lentOfClosed_X6_isOpen : GoodIn wsX6_lentOfClosed wsX6_isOpen := goodIn_r _ [16, 6, 10, 11, 4, 12, 21, 22, 23, 24, 25, 26, 27, 28, 29, 30] (by decide +kernel) (by decide +kernel)
set_option maxRecDepth 20000 in
theorem gX6_lentOfClosed_X6_isOpen : GoodIn wsX6_lentOfClosed (wsV RX6 87 RX6 yX6_isOpen wsX6_isOpen) := goodIn_app (goodIn_of _ (by decide +kernel)) ggX6_lentOfClosed_X6_isOpen
set_option maxRecDepth 20000 in
theorem ggX6_lentOfClosed_X6_lent : GoodIn wsX6_lentOfClosed wsX6_lent := goodIn_r _ [20, 6, 10, 11, 4, 12, 21, 22, 23, 24, 25, 26, 27, 28, 29, 30] (by decide +kernel) (by decide +kernel)
set_option maxRecDepth 20000 in
theorem gX6_lentOfClosed_X6_lent : GoodIn wsX6_lentOfClosed (wsV RX6 47 RX6 yX6_lent wsX6_lent) := goodIn_app (goodIn_of _ (by decide +kernel)) ggX6_lentOfClosed_X6_lent
theorem dX6_lentOfClosed_0 : decode cX6_lentOfClosed 0 = .ok (.iconst 0, 1) := by decide +kernel
theorem dX6_lentOfClosed_1 : decode cX6_lentOfClosed 1 = .ok (.istore_n 1, 1) := by decide +kernel
theorem dX6_lentOfClosed_2 : decode cX6_lentOfClosed 2 = .ok (.iconst 0, 1) := by decide +kernel
theorem dX6_lentOfClosed_3 : decode cX6_lentOfClosed 3 = .ok (.istore_n 2, 1) := by decide +kernel
theorem dX6_lentOfClosed_4 : decode cX6_lentOfClosed 4 = .ok (.iload_n 2, 1) := by decide +kernel
theorem dX6_lentOfClosed_5 : decode cX6_lentOfClosed 5 = .ok (.bipush 8, 2) := by decide +kernel
theorem dX6_lentOfClosed_7 : decode cX6_lentOfClosed 7 = .ok (.if_icmp .ge 38, 3) := by decide +kernel
theorem dX6_lentOfClosed_10 : decode cX6_lentOfClosed 10 = .ok (.iload_n 1, 1) := by decide +kernel
theorem dX6_lentOfClosed_11 : decode cX6_lentOfClosed 11 = .ok (.aload_n 0, 1) := by decide +kernel
theorem dX6_lentOfClosed_12 : decode cX6_lentOfClosed 12 = .ok (.iload_n 2, 1) := by decide +kernel
theorem dX6_lentOfClosed_13 : decode cX6_lentOfClosed 13 = .ok (.invokevirtual 83, 3) := by decide +kernel
theorem dX6_lentOfClosed_16 : decode cX6_lentOfClosed 16 = .ok (.ifCond .eq 20, 3) := by decide +kernel
theorem dX6_lentOfClosed_19 : decode cX6_lentOfClosed 19 = .ok (.aload_n 0, 1) := by decide +kernel
theorem dX6_lentOfClosed_20 : decode cX6_lentOfClosed 20 = .ok (.iload_n 2, 1) := by decide +kernel
theorem dX6_lentOfClosed_21 : decode cX6_lentOfClosed 21 = .ok (.invokevirtual 87, 3) := by decide +kernel
theorem dX6_lentOfClosed_24 : decode cX6_lentOfClosed 24 = .ok (.ifCond .ne 12, 3) := by decide +kernel
theorem dX6_lentOfClosed_27 : decode cX6_lentOfClosed 27 = .ok (.aload_n 0, 1) := by decide +kernel
theorem dX6_lentOfClosed_28 : decode cX6_lentOfClosed 28 = .ok (.iconst 0, 1) := by decide +kernel
theorem dX6_lentOfClosed_29 : decode cX6_lentOfClosed 29 = .ok (.iload_n 2, 1) := by decide +kernel
theorem dX6_lentOfClosed_30 : decode cX6_lentOfClosed 30 = .ok (.invokevirtual 47, 3) := by decide +kernel
theorem dX6_lentOfClosed_33 : decode cX6_lentOfClosed 33 = .ok (.goto 4, 3) := by decide +kernel
theorem dX6_lentOfClosed_36 : decode cX6_lentOfClosed 36 = .ok (.iconst 0, 1) := by decide +kernel
theorem dX6_lentOfClosed_37 : decode cX6_lentOfClosed 37 = .ok (.iadd, 1) := by decide +kernel
theorem dX6_lentOfClosed_38 : decode cX6_lentOfClosed 38 = .ok (.istore_n 1, 1) := by decide +kernel
theorem dX6_lentOfClosed_39 : decode cX6_lentOfClosed 39 = .ok (.iinc 2 1, 3) := by decide +kernel
theorem dX6_lentOfClosed_42 : decode cX6_lentOfClosed 42 = .ok (.goto (-38), 3) := by decide +kernel
theorem dX6_lentOfClosed_45 : decode cX6_lentOfClosed 45 = .ok (.iload_n 1, 1) := by decide +kernel
theorem dX6_lentOfClosed_46 : decode cX6_lentOfClosed 46 = .ok (.ireturn, 1) := by decide +kernel
set_option maxRecDepth 20000 in
theorem ggX6_runs_X6_isRunStart : GoodIn wsX6_runs wsX6_isRunStart := goodIn_r _ [5, 6, 7, 8, 4, 9, 10, 15, 16, 17, 18, 19, 20, 21, 22, 23, 24] (by decide +kernel) (by decide +kernel)
set_option maxRecDepth 20000 in
theorem gX6_runs_X6_isRunStart : GoodIn wsX6_runs (wsV RX6 50 RX6 yX6_isRunStart wsX6_isRunStart) := goodIn_app (goodIn_of _ (by decide +kernel)) ggX6_runs_X6_isRunStart
set_option maxRecDepth 20000 in
theorem ggX6_runs_X6_runLength : GoodIn wsX6_runs wsX6_runLength := goodIn_r _ [14, 6, 7, 8, 4, 9, 10, 15, 16, 17, 18, 19, 20, 21, 22, 23, 24] (by decide +kernel) (by decide +kernel)
set_option maxRecDepth 20000 in
theorem gX6_runs_X6_runLength : GoodIn wsX6_runs (wsV RX6 53 RX6 yX6_runLength wsX6_runLength) := goodIn_app (goodIn_of _ (by decide +kernel)) ggX6_runs_X6_runLength
theorem dX6_runs_0 : decode cX6_runs 0 = .ok (.iconst 0, 1) := by decide +kernel
theorem dX6_runs_1 : decode cX6_runs 1 = .ok (.istore_n 2, 1) := by decide +kernel
theorem dX6_runs_2 : decode cX6_runs 2 = .ok (.iconst 0, 1) := by decide +kernel
theorem dX6_runs_3 : decode cX6_runs 3 = .ok (.istore_n 3, 1) := by decide +kernel
theorem dX6_runs_4 : decode cX6_runs 4 = .ok (.iconst 0, 1) := by decide +kernel
theorem dX6_runs_5 : decode cX6_runs 5 = .ok (.istore 4, 2) := by decide +kernel
theorem dX6_runs_7 : decode cX6_runs 7 = .ok (.iload 4, 2) := by decide +kernel
theorem dX6_runs_9 : decode cX6_runs 9 = .ok (.bipush 64, 2) := by decide +kernel
theorem dX6_runs_11 : decode cX6_runs 11 = .ok (.if_icmp .ge 45, 3) := by decide +kernel
theorem dX6_runs_14 : decode cX6_runs 14 = .ok (.aload_n 0, 1) := by decide +kernel
theorem dX6_runs_15 : decode cX6_runs 15 = .ok (.iconst 0, 1) := by decide +kernel
theorem dX6_runs_16 : decode cX6_runs 16 = .ok (.iload 4, 2) := by decide +kernel
theorem dX6_runs_18 : decode cX6_runs 18 = .ok (.invokevirtual 50, 3) := by decide +kernel
theorem dX6_runs_21 : decode cX6_runs 21 = .ok (.ifCond .eq 29, 3) := by decide +kernel
theorem dX6_runs_24 : decode cX6_runs 24 = .ok (.iinc 2 1, 3) := by decide +kernel
theorem dX6_runs_27 : decode cX6_runs 27 = .ok (.aload_n 0, 1) := by decide +kernel
theorem dX6_runs_28 : decode cX6_runs 28 = .ok (.iconst 0, 1) := by decide +kernel
theorem dX6_runs_29 : decode cX6_runs 29 = .ok (.iload 4, 2) := by decide +kernel
theorem dX6_runs_31 : decode cX6_runs 31 = .ok (.invokevirtual 53, 3) := by decide +kernel
theorem dX6_runs_34 : decode cX6_runs 34 = .ok (.iload_n 3, 1) := by decide +kernel
theorem dX6_runs_35 : decode cX6_runs 35 = .ok (.if_icmp .le 13, 3) := by decide +kernel
theorem dX6_runs_38 : decode cX6_runs 38 = .ok (.aload_n 0, 1) := by decide +kernel
theorem dX6_runs_39 : decode cX6_runs 39 = .ok (.iconst 0, 1) := by decide +kernel
theorem dX6_runs_40 : decode cX6_runs 40 = .ok (.iload 4, 2) := by decide +kernel
theorem dX6_runs_42 : decode cX6_runs 42 = .ok (.invokevirtual 53, 3) := by decide +kernel
theorem dX6_runs_45 : decode cX6_runs 45 = .ok (.goto 4, 3) := by decide +kernel
theorem dX6_runs_48 : decode cX6_runs 48 = .ok (.iload_n 3, 1) := by decide +kernel
theorem dX6_runs_49 : decode cX6_runs 49 = .ok (.istore_n 3, 1) := by decide +kernel
theorem dX6_runs_50 : decode cX6_runs 50 = .ok (.iinc 4 1, 3) := by decide +kernel
theorem dX6_runs_53 : decode cX6_runs 53 = .ok (.goto (-46), 3) := by decide +kernel
theorem dX6_runs_56 : decode cX6_runs 56 = .ok (.iload_n 1, 1) := by decide +kernel
theorem dX6_runs_57 : decode cX6_runs 57 = .ok (.ifCond .eq 7, 3) := by decide +kernel
theorem dX6_runs_60 : decode cX6_runs 60 = .ok (.iload_n 3, 1) := by decide +kernel
theorem dX6_runs_61 : decode cX6_runs 61 = .ok (.goto 4, 3) := by decide +kernel
theorem dX6_runs_64 : decode cX6_runs 64 = .ok (.iload_n 2, 1) := by decide +kernel
theorem dX6_runs_65 : decode cX6_runs 65 = .ok (.ireturn, 1) := by decide +kernel
set_option maxRecDepth 20000 in
theorem ggX6_count_X6_many : GoodIn wsX6_count wsX6_many := goodIn_r _ [7, 8, 9, 10, 6, 11, 74, 75, 76, 77, 78, 79, 80, 81, 82, 83] (by decide +kernel) (by decide +kernel)
set_option maxRecDepth 20000 in
theorem gX6_count_X6_many : GoodIn wsX6_count (wsV RX6 93 RX6 yX6_many wsX6_many) := goodIn_app (goodIn_of _ (by decide +kernel)) ggX6_count_X6_many
set_option maxRecDepth 20000 in
theorem ggX6_count_X6_opened : GoodIn wsX6_count wsX6_opened := goodIn_r _ [15, 16, 17, 18, 6, 19, 8, 20, 21, 22, 9, 10, 11, 23, 24, 25, 26, 27, 28, 29, 74, 75, 76, 77, 78, 79, 80, 81, 82, 83] (by decide +kernel) (by decide +kernel)
set_option maxRecDepth 20000 in
theorem gX6_count_X6_opened : GoodIn wsX6_count (wsV RX6 97 RX6 yX6_opened wsX6_opened) := goodIn_app (goodIn_of _ (by decide +kernel)) ggX6_count_X6_opened
set_option maxRecDepth 20000 in
theorem ggX6_count_X6_free : GoodIn wsX6_count wsX6_free := goodIn_r _ [33, 34, 35, 36, 6, 37, 8, 27, 28, 29, 74, 75, 76, 77, 78, 79, 80, 81, 82, 83] (by decide +kernel) (by decide +kernel)
set_option maxRecDepth 20000 in
theorem gX6_count_X6_free : GoodIn wsX6_count (wsV RX6 56 RX6 yX6_free wsX6_free) := goodIn_app (goodIn_of _ (by decide +kernel)) ggX6_count_X6_free
set_option maxRecDepth 20000 in
theorem ggX6_count_X6_sumOfLent : GoodIn wsX6_count wsX6_sumOfLent := goodIn_r _ [41, 42, 43, 44, 6, 45, 8, 9, 10, 11, 74, 75, 76, 77, 78, 79, 80, 81, 82, 83] (by decide +kernel) (by decide +kernel)
set_option maxRecDepth 20000 in
theorem gX6_count_X6_sumOfLent : GoodIn wsX6_count (wsV RX6 73 RX6 yX6_sumOfLent wsX6_sumOfLent) := goodIn_app (goodIn_of _ (by decide +kernel)) ggX6_count_X6_sumOfLent
set_option maxRecDepth 20000 in
theorem ggX6_count_X6_lentOfClosed : GoodIn wsX6_count wsX6_lentOfClosed := goodIn_r _ [49, 16, 17, 18, 6, 19, 8, 20, 21, 22, 9, 10, 11, 23, 24, 25, 26, 42, 43, 44, 45, 74, 75, 76, 77, 78, 79, 80, 81, 82, 83] (by decide +kernel) (by decide +kernel)
set_option maxRecDepth 20000 in
theorem gX6_count_X6_lentOfClosed : GoodIn wsX6_count (wsV RX6 201 RX6 yX6_lentOfClosed wsX6_lentOfClosed) := goodIn_app (goodIn_of _ (by decide +kernel)) ggX6_count_X6_lentOfClosed
set_option maxRecDepth 20000 in
theorem ggX6_count_X6_runs : GoodIn wsX6_count wsX6_runs := goodIn_r _ [53, 54, 55, 56, 6, 57, 34, 35, 36, 37, 8, 58, 59, 60, 61, 74, 75, 76, 77, 78, 79, 80, 81, 82, 83] (by decide +kernel) (by decide +kernel)
set_option maxRecDepth 20000 in
theorem gX6_count_X6_runs : GoodIn wsX6_count (wsV RX6 204 RX6 yX6_runs wsX6_runs) := goodIn_app (goodIn_of _ (by decide +kernel)) ggX6_count_X6_runs
set_option maxRecDepth 20000 in
theorem ggX6_count_X6_allExtents : GoodIn wsX6_count wsX6_allExtents := goodIn_r _ [65, 16, 17, 18, 6, 19, 8, 20, 21, 22, 9, 10, 11, 66, 67, 68, 69, 70, 71, 72, 73, 27, 28, 29, 74, 75, 76, 77, 78, 79, 80, 81, 82, 83] (by decide +kernel) (by decide +kernel)
set_option maxRecDepth 20000 in
theorem gX6_count_X6_allExtents : GoodIn wsX6_count (wsV RX6 207 RX6 yX6_allExtents wsX6_allExtents) := goodIn_app (goodIn_of _ (by decide +kernel)) ggX6_count_X6_allExtents
theorem dX6_count_0 : decode cX6_count 0 = .ok (.iload_n 1, 1) := by decide +kernel
theorem dX6_count_1 : decode cX6_count 1 = .ok (.tableswitch 128 0 10 #[59, 64, 69, 75, 90, 96, 101, 107, 113, 118, 123], 59) := by decide +kernel
theorem dX6_count_60 : decode cX6_count 60 = .ok (.aload_n 0, 1) := by decide +kernel
theorem dX6_count_61 : decode cX6_count 61 = .ok (.invokevirtual 93, 3) := by decide +kernel
theorem dX6_count_64 : decode cX6_count 64 = .ok (.ireturn, 1) := by decide +kernel
theorem dX6_count_65 : decode cX6_count 65 = .ok (.aload_n 0, 1) := by decide +kernel
theorem dX6_count_66 : decode cX6_count 66 = .ok (.invokevirtual 97, 3) := by decide +kernel
theorem dX6_count_69 : decode cX6_count 69 = .ok (.ireturn, 1) := by decide +kernel
theorem dX6_count_70 : decode cX6_count 70 = .ok (.aload_n 0, 1) := by decide +kernel
theorem dX6_count_71 : decode cX6_count 71 = .ok (.iconst 0, 1) := by decide +kernel
theorem dX6_count_72 : decode cX6_count 72 = .ok (.invokevirtual 56, 3) := by decide +kernel
theorem dX6_count_75 : decode cX6_count 75 = .ok (.ireturn, 1) := by decide +kernel
theorem dX6_count_76 : decode cX6_count 76 = .ok (.bipush 64, 2) := by decide +kernel
theorem dX6_count_78 : decode cX6_count 78 = .ok (.aload_n 0, 1) := by decide +kernel
theorem dX6_count_79 : decode cX6_count 79 = .ok (.iconst 0, 1) := by decide +kernel
theorem dX6_count_80 : decode cX6_count 80 = .ok (.invokevirtual 56, 3) := by decide +kernel
theorem dX6_count_83 : decode cX6_count 83 = .ok (.isub, 1) := by decide +kernel
theorem dX6_count_84 : decode cX6_count 84 = .ok (.aload_n 0, 1) := by decide +kernel
theorem dX6_count_85 : decode cX6_count 85 = .ok (.iconst 0, 1) := by decide +kernel
theorem dX6_count_86 : decode cX6_count 86 = .ok (.invokevirtual 73, 3) := by decide +kernel
theorem dX6_count_89 : decode cX6_count 89 = .ok (.isub, 1) := by decide +kernel
theorem dX6_count_90 : decode cX6_count 90 = .ok (.ireturn, 1) := by decide +kernel
theorem dX6_count_91 : decode cX6_count 91 = .ok (.aload_n 0, 1) := by decide +kernel
theorem dX6_count_92 : decode cX6_count 92 = .ok (.iconst 0, 1) := by decide +kernel
theorem dX6_count_93 : decode cX6_count 93 = .ok (.invokevirtual 73, 3) := by decide +kernel
theorem dX6_count_96 : decode cX6_count 96 = .ok (.ireturn, 1) := by decide +kernel
theorem dX6_count_97 : decode cX6_count 97 = .ok (.aload_n 0, 1) := by decide +kernel
theorem dX6_count_98 : decode cX6_count 98 = .ok (.invokevirtual 201, 3) := by decide +kernel
theorem dX6_count_101 : decode cX6_count 101 = .ok (.ireturn, 1) := by decide +kernel
theorem dX6_count_102 : decode cX6_count 102 = .ok (.aload_n 0, 1) := by decide +kernel
theorem dX6_count_103 : decode cX6_count 103 = .ok (.iconst 0, 1) := by decide +kernel
theorem dX6_count_104 : decode cX6_count 104 = .ok (.invokevirtual 204, 3) := by decide +kernel
theorem dX6_count_107 : decode cX6_count 107 = .ok (.ireturn, 1) := by decide +kernel
theorem dX6_count_108 : decode cX6_count 108 = .ok (.aload_n 0, 1) := by decide +kernel
theorem dX6_count_109 : decode cX6_count 109 = .ok (.iconst 1, 1) := by decide +kernel
theorem dX6_count_110 : decode cX6_count 110 = .ok (.invokevirtual 204, 3) := by decide +kernel
theorem dX6_count_113 : decode cX6_count 113 = .ok (.ireturn, 1) := by decide +kernel
theorem dX6_count_114 : decode cX6_count 114 = .ok (.aload_n 0, 1) := by decide +kernel
theorem dX6_count_115 : decode cX6_count 115 = .ok (.invokevirtual 207, 3) := by decide +kernel
theorem dX6_count_118 : decode cX6_count 118 = .ok (.ireturn, 1) := by decide +kernel
theorem dX6_count_119 : decode cX6_count 119 = .ok (.aload_n 0, 1) := by decide +kernel
theorem dX6_count_120 : decode cX6_count 120 = .ok (.getfield 16, 3) := by decide +kernel
theorem dX6_count_123 : decode cX6_count 123 = .ok (.ireturn, 1) := by decide +kernel
theorem dX6_count_124 : decode cX6_count 124 = .ok (.aload_n 0, 1) := by decide +kernel
theorem dX6_count_125 : decode cX6_count 125 = .ok (.getfield 145, 3) := by decide +kernel
theorem dX6_count_128 : decode cX6_count 128 = .ok (.ireturn, 1) := by decide +kernel
theorem dX6_count_129 : decode cX6_count 129 = .ok (.bipush (-2), 2) := by decide +kernel
theorem dX6_count_131 : decode cX6_count 131 = .ok (.ireturn, 1) := by decide +kernel
set_option maxRecDepth 20000 in
theorem ggX6_total_X6_in : GoodIn wsX6_total wsX6_in := goodIn_r _ [5] (by decide +kernel) (by decide +kernel)
set_option maxRecDepth 20000 in
theorem gX6_total_X6_in : GoodIn wsX6_total (va_wsS RX6 24 yX6_in wsX6_in) := goodIn_app (goodIn_of _ (by decide +kernel)) ggX6_total_X6_in
theorem dX6_total_0 : decode cX6_total 0 = .ok (.iload_n 1, 1) := by decide +kernel
theorem dX6_total_1 : decode cX6_total 1 = .ok (.iconst 0, 1) := by decide +kernel
theorem dX6_total_2 : decode cX6_total 2 = .ok (.iconst 3, 1) := by decide +kernel
theorem dX6_total_3 : decode cX6_total 3 = .ok (.invokestatic 24, 3) := by decide +kernel
theorem dX6_total_6 : decode cX6_total 6 = .ok (.ifCond .eq 16, 3) := by decide +kernel
theorem dX6_total_9 : decode cX6_total 9 = .ok (.aload_n 0, 1) := by decide +kernel
theorem dX6_total_10 : decode cX6_total 10 = .ok (.getfield 7, 3) := by decide +kernel
theorem dX6_total_13 : decode cX6_total 13 = .ok (.sipush 242, 3) := by decide +kernel
theorem dX6_total_16 : decode cX6_total 16 = .ok (.iload_n 1, 1) := by decide +kernel
theorem dX6_total_17 : decode cX6_total 17 = .ok (.iadd, 1) := by decide +kernel
theorem dX6_total_18 : decode cX6_total 18 = .ok (.iaload, 1) := by decide +kernel
theorem dX6_total_19 : decode cX6_total 19 = .ok (.goto 5, 3) := by decide +kernel
theorem dX6_total_22 : decode cX6_total 22 = .ok (.bipush (-2), 2) := by decide +kernel
theorem dX6_total_24 : decode cX6_total 24 = .ok (.ireturn, 1) := by decide +kernel
set_option maxRecDepth 20000 in
theorem ggX6_ifAppended_X6_isThere : GoodIn wsX6_ifAppended wsX6_isThere := goodIn_r _ [5, 6, 7, 8, 4, 9, 10, 11, 12, 88, 89, 90, 91, 92, 93, 94, 95, 96, 97] (by decide +kernel) (by decide +kernel)
set_option maxRecDepth 20000 in
theorem gX6_ifAppended_X6_isThere : GoodIn wsX6_ifAppended (wsV RX6 83 RX6 yX6_isThere wsX6_isThere) := goodIn_app (goodIn_of _ (by decide +kernel)) ggX6_ifAppended_X6_isThere
set_option maxRecDepth 20000 in
theorem ggX6_ifAppended_X6_in : GoodIn wsX6_ifAppended wsX6_in := goodIn_r _ [9] (by decide +kernel) (by decide +kernel)
set_option maxRecDepth 20000 in
theorem gX6_ifAppended_X6_in : GoodIn wsX6_ifAppended (va_wsS RX6 24 yX6_in wsX6_in) := goodIn_app (goodIn_of _ (by decide +kernel)) ggX6_ifAppended_X6_in
set_option maxRecDepth 20000 in
theorem ggX6_ifAppended_X6_isOpen : GoodIn wsX6_ifAppended wsX6_isOpen := goodIn_r _ [16, 6, 10, 11, 4, 12, 88, 89, 90, 91, 92, 93, 94, 95, 96, 97] (by decide +kernel) (by decide +kernel)
set_option maxRecDepth 20000 in
theorem gX6_ifAppended_X6_isOpen : GoodIn wsX6_ifAppended (wsV RX6 87 RX6 yX6_isOpen wsX6_isOpen) := goodIn_app (goodIn_of _ (by decide +kernel)) ggX6_ifAppended_X6_isOpen
set_option maxRecDepth 20000 in
theorem ggX6_ifAppended_X6_canAppend : GoodIn wsX6_ifAppended wsX6_canAppend := goodIn_r _ [20, 21, 22, 23, 4, 24, 25, 26, 27, 28, 6, 10, 11, 12, 29, 30, 31, 32, 33, 34, 35, 36, 37, 38, 39, 88, 89, 90, 91, 92, 93, 94, 95, 96, 97] (by decide +kernel) (by decide +kernel)
set_option maxRecDepth 20000 in
theorem gX6_ifAppended_X6_canAppend : GoodIn wsX6_ifAppended (wsV RX6 90 RX6 yX6_canAppend wsX6_canAppend) := goodIn_app (goodIn_of _ (by decide +kernel)) ggX6_ifAppended_X6_canAppend
set_option maxRecDepth 20000 in
theorem ggX6_ifAppended_X6_copies : GoodIn wsX6_ifAppended wsX6_copies := goodIn_r _ [43, 6, 88, 89, 90, 91, 92, 93, 94, 95, 96, 97] (by decide +kernel) (by decide +kernel)
set_option maxRecDepth 20000 in
theorem gX6_ifAppended_X6_copies : GoodIn wsX6_ifAppended (wsV RX6 20 RX6 yX6_copies wsX6_copies) := goodIn_app (goodIn_of _ (by decide +kernel)) ggX6_ifAppended_X6_copies
set_option maxRecDepth 20000 in
theorem ggX6_ifAppended_X6_appends : GoodIn wsX6_ifAppended wsX6_appends := goodIn_r _ [47, 6, 10, 11, 4, 12, 25, 26, 27, 28, 48, 49, 50, 51, 29, 30, 31, 32, 33, 34, 35, 36, 37, 38, 39, 52, 53, 54, 55, 56, 57, 58, 59, 60, 61, 62, 63, 64, 65, 66, 67, 68, 69, 70, 71, 72, 73, 74, 75, 76, 77, 78, 79, 80, 81, 82, 83, 84, 85, 86, 87, 88, 89, 90, 91, 92, 93, 94, 95, 96, 97] (by decide +kernel) (by decide +kernel)
set_option maxRecDepth 20000 in
theorem gX6_ifAppended_X6_appends : GoodIn wsX6_ifAppended (wsV RX6 130 RX6 yX6_appends wsX6_appends) := goodIn_app (goodIn_of _ (by decide +kernel)) ggX6_ifAppended_X6_appends
set_option maxRecDepth 20000 in
theorem ggX6_ifAppended_X6_lent : GoodIn wsX6_ifAppended wsX6_lent := goodIn_r _ [28, 6, 10, 11, 4, 12, 88, 89, 90, 91, 92, 93, 94, 95, 96, 97] (by decide +kernel) (by decide +kernel)
set_option maxRecDepth 20000 in
theorem gX6_ifAppended_X6_lent : GoodIn wsX6_ifAppended (wsV RX6 47 RX6 yX6_lent wsX6_lent) := goodIn_app (goodIn_of _ (by decide +kernel)) ggX6_ifAppended_X6_lent
set_option maxRecDepth 20000 in
theorem ggX6_ifAppended_X6_free : GoodIn wsX6_ifAppended wsX6_free := goodIn_r _ [32, 33, 34, 35, 4, 36, 6, 37, 38, 39, 88, 89, 90, 91, 92, 93, 94, 95, 96, 97] (by decide +kernel) (by decide +kernel)
set_option maxRecDepth 20000 in
theorem gX6_ifAppended_X6_free : GoodIn wsX6_ifAppended (wsV RX6 56 RX6 yX6_free wsX6_free) := goodIn_app (goodIn_of _ (by decide +kernel)) ggX6_ifAppended_X6_free
theorem dX6_ifAppended_0 : decode cX6_ifAppended 0 = .ok (.aload_n 0, 1) := by decide +kernel
theorem dX6_ifAppended_1 : decode cX6_ifAppended 1 = .ok (.iload_n 1, 1) := by decide +kernel
theorem dX6_ifAppended_2 : decode cX6_ifAppended 2 = .ok (.invokevirtual 83, 3) := by decide +kernel
theorem dX6_ifAppended_5 : decode cX6_ifAppended 5 = .ok (.ifCond .ne 5, 3) := by decide +kernel
theorem dX6_ifAppended_8 : decode cX6_ifAppended 8 = .ok (.iconst (-1), 1) := by decide +kernel
theorem dX6_ifAppended_9 : decode cX6_ifAppended 9 = .ok (.ireturn, 1) := by decide +kernel
theorem dX6_ifAppended_10 : decode cX6_ifAppended 10 = .ok (.iload_n 2, 1) := by decide +kernel
theorem dX6_ifAppended_11 : decode cX6_ifAppended 11 = .ok (.iconst 1, 1) := by decide +kernel
theorem dX6_ifAppended_12 : decode cX6_ifAppended 12 = .ok (.bipush 64, 2) := by decide +kernel
theorem dX6_ifAppended_14 : decode cX6_ifAppended 14 = .ok (.invokestatic 24, 3) := by decide +kernel
theorem dX6_ifAppended_17 : decode cX6_ifAppended 17 = .ok (.ifCond .eq 12, 3) := by decide +kernel
theorem dX6_ifAppended_20 : decode cX6_ifAppended 20 = .ok (.iload_n 3, 1) := by decide +kernel
theorem dX6_ifAppended_21 : decode cX6_ifAppended 21 = .ok (.iconst 0, 1) := by decide +kernel
theorem dX6_ifAppended_22 : decode cX6_ifAppended 22 = .ok (.iconst 2, 1) := by decide +kernel
theorem dX6_ifAppended_23 : decode cX6_ifAppended 23 = .ok (.invokestatic 24, 3) := by decide +kernel
theorem dX6_ifAppended_26 : decode cX6_ifAppended 26 = .ok (.ifCond .ne 6, 3) := by decide +kernel
theorem dX6_ifAppended_29 : decode cX6_ifAppended 29 = .ok (.bipush (-2), 2) := by decide +kernel
theorem dX6_ifAppended_31 : decode cX6_ifAppended 31 = .ok (.ireturn, 1) := by decide +kernel
theorem dX6_ifAppended_32 : decode cX6_ifAppended 32 = .ok (.aload_n 0, 1) := by decide +kernel
theorem dX6_ifAppended_33 : decode cX6_ifAppended 33 = .ok (.iload_n 1, 1) := by decide +kernel
theorem dX6_ifAppended_34 : decode cX6_ifAppended 34 = .ok (.invokevirtual 87, 3) := by decide +kernel
theorem dX6_ifAppended_37 : decode cX6_ifAppended 37 = .ok (.ifCond .eq 12, 3) := by decide +kernel
theorem dX6_ifAppended_40 : decode cX6_ifAppended 40 = .ok (.aload_n 0, 1) := by decide +kernel
theorem dX6_ifAppended_41 : decode cX6_ifAppended 41 = .ok (.iload_n 1, 1) := by decide +kernel
theorem dX6_ifAppended_42 : decode cX6_ifAppended 42 = .ok (.iload_n 2, 1) := by decide +kernel
theorem dX6_ifAppended_43 : decode cX6_ifAppended 43 = .ok (.invokevirtual 90, 3) := by decide +kernel
theorem dX6_ifAppended_46 : decode cX6_ifAppended 46 = .ok (.ifCond .ne 6, 3) := by decide +kernel
theorem dX6_ifAppended_49 : decode cX6_ifAppended 49 = .ok (.bipush (-4), 2) := by decide +kernel
theorem dX6_ifAppended_51 : decode cX6_ifAppended 51 = .ok (.ireturn, 1) := by decide +kernel
theorem dX6_ifAppended_52 : decode cX6_ifAppended 52 = .ok (.aload_n 0, 1) := by decide +kernel
theorem dX6_ifAppended_53 : decode cX6_ifAppended 53 = .ok (.iconst 0, 1) := by decide +kernel
theorem dX6_ifAppended_54 : decode cX6_ifAppended 54 = .ok (.bipush 7, 2) := by decide +kernel
theorem dX6_ifAppended_56 : decode cX6_ifAppended 56 = .ok (.invokevirtual 20, 3) := by decide +kernel
theorem dX6_ifAppended_59 : decode cX6_ifAppended 59 = .ok (.sipush 1722, 3) := by decide +kernel
theorem dX6_ifAppended_62 : decode cX6_ifAppended 62 = .ok (.istore 4, 2) := by decide +kernel
theorem dX6_ifAppended_64 : decode cX6_ifAppended 64 = .ok (.aload_n 0, 1) := by decide +kernel
theorem dX6_ifAppended_65 : decode cX6_ifAppended 65 = .ok (.iload 4, 2) := by decide +kernel
theorem dX6_ifAppended_67 : decode cX6_ifAppended 67 = .ok (.iload_n 1, 1) := by decide +kernel
theorem dX6_ifAppended_68 : decode cX6_ifAppended 68 = .ok (.iload_n 2, 1) := by decide +kernel
theorem dX6_ifAppended_69 : decode cX6_ifAppended 69 = .ok (.iconst 0, 1) := by decide +kernel
theorem dX6_ifAppended_70 : decode cX6_ifAppended 70 = .ok (.invokevirtual 130, 3) := by decide +kernel
theorem dX6_ifAppended_73 : decode cX6_ifAppended 73 = .ok (.istore 5, 2) := by decide +kernel
theorem dX6_ifAppended_75 : decode cX6_ifAppended 75 = .ok (.iload_n 3, 1) := by decide +kernel
theorem dX6_ifAppended_76 : decode cX6_ifAppended 76 = .ok (.ifCond .ne 8, 3) := by decide +kernel
theorem dX6_ifAppended_79 : decode cX6_ifAppended 79 = .ok (.iload 5, 2) := by decide +kernel
theorem dX6_ifAppended_81 : decode cX6_ifAppended 81 = .ok (.goto 24, 3) := by decide +kernel
theorem dX6_ifAppended_84 : decode cX6_ifAppended 84 = .ok (.iload_n 3, 1) := by decide +kernel
theorem dX6_ifAppended_85 : decode cX6_ifAppended 85 = .ok (.iconst 1, 1) := by decide +kernel
theorem dX6_ifAppended_86 : decode cX6_ifAppended 86 = .ok (.if_icmp .ne 13, 3) := by decide +kernel
theorem dX6_ifAppended_89 : decode cX6_ifAppended 89 = .ok (.aload_n 0, 1) := by decide +kernel
theorem dX6_ifAppended_90 : decode cX6_ifAppended 90 = .ok (.iload 4, 2) := by decide +kernel
theorem dX6_ifAppended_92 : decode cX6_ifAppended 92 = .ok (.iload_n 1, 1) := by decide +kernel
theorem dX6_ifAppended_93 : decode cX6_ifAppended 93 = .ok (.invokevirtual 47, 3) := by decide +kernel
theorem dX6_ifAppended_96 : decode cX6_ifAppended 96 = .ok (.goto 9, 3) := by decide +kernel
theorem dX6_ifAppended_99 : decode cX6_ifAppended 99 = .ok (.aload_n 0, 1) := by decide +kernel
theorem dX6_ifAppended_100 : decode cX6_ifAppended 100 = .ok (.iload 4, 2) := by decide +kernel
theorem dX6_ifAppended_102 : decode cX6_ifAppended 102 = .ok (.invokevirtual 56, 3) := by decide +kernel
theorem dX6_ifAppended_105 : decode cX6_ifAppended 105 = .ok (.ireturn, 1) := by decide +kernel
set_option maxRecDepth 20000 in
theorem ggX6_room_X6_isThere : GoodIn wsX6_room wsX6_isThere := goodIn_r _ [5, 6, 7, 8, 4, 9, 10, 11, 12, 36, 37, 38, 39, 40, 41, 42, 43, 44, 45] (by decide +kernel) (by decide +kernel)
set_option maxRecDepth 20000 in
theorem gX6_room_X6_isThere : GoodIn wsX6_room (wsV RX6 83 RX6 yX6_isThere wsX6_isThere) := goodIn_app (goodIn_of _ (by decide +kernel)) ggX6_room_X6_isThere
set_option maxRecDepth 20000 in
theorem ggX6_room_X6_isOpen : GoodIn wsX6_room wsX6_isOpen := goodIn_r _ [16, 6, 10, 11, 4, 12, 36, 37, 38, 39, 40, 41, 42, 43, 44, 45] (by decide +kernel) (by decide +kernel)
set_option maxRecDepth 20000 in
theorem gX6_room_X6_isOpen : GoodIn wsX6_room (wsV RX6 87 RX6 yX6_isOpen wsX6_isOpen) := goodIn_app (goodIn_of _ (by decide +kernel)) ggX6_room_X6_isOpen
set_option maxRecDepth 20000 in
theorem ggX6_room_X6_sumOfLent : GoodIn wsX6_room wsX6_sumOfLent := goodIn_r _ [20, 21, 22, 23, 4, 24, 6, 10, 11, 12, 36, 37, 38, 39, 40, 41, 42, 43, 44, 45] (by decide +kernel) (by decide +kernel)
set_option maxRecDepth 20000 in
theorem gX6_room_X6_sumOfLent : GoodIn wsX6_room (wsV RX6 73 RX6 yX6_sumOfLent wsX6_sumOfLent) := goodIn_app (goodIn_of _ (by decide +kernel)) ggX6_room_X6_sumOfLent
set_option maxRecDepth 20000 in
theorem ggX6_room_X6_free : GoodIn wsX6_room wsX6_free := goodIn_r _ [28, 29, 30, 31, 4, 32, 6, 33, 34, 35, 36, 37, 38, 39, 40, 41, 42, 43, 44, 45] (by decide +kernel) (by decide +kernel)
set_option maxRecDepth 20000 in
theorem gX6_room_X6_free : GoodIn wsX6_room (wsV RX6 56 RX6 yX6_free wsX6_free) := goodIn_app (goodIn_of _ (by decide +kernel)) ggX6_room_X6_free
theorem dX6_room_0 : decode cX6_room 0 = .ok (.aload_n 0, 1) := by decide +kernel
theorem dX6_room_1 : decode cX6_room 1 = .ok (.iload_n 1, 1) := by decide +kernel
theorem dX6_room_2 : decode cX6_room 2 = .ok (.invokevirtual 83, 3) := by decide +kernel
theorem dX6_room_5 : decode cX6_room 5 = .ok (.ifCond .ne 7, 3) := by decide +kernel
theorem dX6_room_8 : decode cX6_room 8 = .ok (.iconst (-1), 1) := by decide +kernel
theorem dX6_room_9 : decode cX6_room 9 = .ok (.goto 27, 3) := by decide +kernel
theorem dX6_room_12 : decode cX6_room 12 = .ok (.aload_n 0, 1) := by decide +kernel
theorem dX6_room_13 : decode cX6_room 13 = .ok (.iload_n 1, 1) := by decide +kernel
theorem dX6_room_14 : decode cX6_room 14 = .ok (.invokevirtual 87, 3) := by decide +kernel
theorem dX6_room_17 : decode cX6_room 17 = .ok (.ifCond .ne 8, 3) := by decide +kernel
theorem dX6_room_20 : decode cX6_room 20 = .ok (.bipush (-4), 2) := by decide +kernel
theorem dX6_room_22 : decode cX6_room 22 = .ok (.goto 14, 3) := by decide +kernel
theorem dX6_room_25 : decode cX6_room 25 = .ok (.aload_n 0, 1) := by decide +kernel
theorem dX6_room_26 : decode cX6_room 26 = .ok (.iconst 0, 1) := by decide +kernel
theorem dX6_room_27 : decode cX6_room 27 = .ok (.invokevirtual 73, 3) := by decide +kernel
theorem dX6_room_30 : decode cX6_room 30 = .ok (.aload_n 0, 1) := by decide +kernel
theorem dX6_room_31 : decode cX6_room 31 = .ok (.iconst 0, 1) := by decide +kernel
theorem dX6_room_32 : decode cX6_room 32 = .ok (.invokevirtual 56, 3) := by decide +kernel
theorem dX6_room_35 : decode cX6_room 35 = .ok (.iadd, 1) := by decide +kernel
theorem dX6_room_36 : decode cX6_room 36 = .ok (.ireturn, 1) := by decide +kernel
set_option maxRecDepth 20000 in
theorem ggX6_wholeness_X6_isThere : GoodIn wsX6_wholeness wsX6_isThere := goodIn_r _ [6, 1, 7, 8, 5, 9, 10, 11, 12, 28, 29, 30, 31, 32, 33, 34, 35, 36, 37] (by decide +kernel) (by decide +kernel)
set_option maxRecDepth 20000 in
theorem gX6_wholeness_X6_isThere : GoodIn wsX6_wholeness (wsV RX6 83 RX6 yX6_isThere wsX6_isThere) := goodIn_app (goodIn_of _ (by decide +kernel)) ggX6_wholeness_X6_isThere
set_option maxRecDepth 20000 in
theorem ggX6_wholeness_X6_at : GoodIn wsX6_wholeness wsX6_at := goodIn_r _ [12] (by decide +kernel) (by decide +kernel)
set_option maxRecDepth 20000 in
theorem gX6_wholeness_X6_at : GoodIn wsX6_wholeness (va_wsS RX6 28 yX6_at wsX6_at) := goodIn_app (goodIn_of _ (by decide +kernel)) ggX6_wholeness_X6_at
set_option maxRecDepth 20000 in
theorem ggX6_wholeness_X6_flag : GoodIn wsX6_wholeness wsX6_flag := goodIn_r _ [15] (by decide +kernel) (by decide +kernel)
set_option maxRecDepth 20000 in
theorem gX6_wholeness_X6_flag : GoodIn wsX6_wholeness (va_wsS RX6 36 yX6_flag wsX6_flag) := goodIn_app (goodIn_of _ (by decide +kernel)) ggX6_wholeness_X6_flag
set_option maxRecDepth 20000 in
theorem ggX6_wholeness_X6_allExtents : GoodIn wsX6_wholeness wsX6_allExtents := goodIn_r _ [19, 2, 3, 4, 5, 6, 1, 7, 8, 9, 10, 11, 12, 20, 21, 22, 23, 24, 25, 26, 27, 13, 14, 15, 28, 29, 30, 31, 32, 33, 34, 35, 36, 37] (by decide +kernel) (by decide +kernel)
set_option maxRecDepth 20000 in
theorem gX6_wholeness_X6_allExtents : GoodIn wsX6_wholeness (wsV RX6 207 RX6 yX6_allExtents wsX6_allExtents) := goodIn_app (goodIn_of _ (by decide +kernel)) ggX6_wholeness_X6_allExtents
theorem dX6_wholeness_0 : decode cX6_wholeness 0 = .ok (.iconst 0, 1) := by decide +kernel
theorem dX6_wholeness_1 : decode cX6_wholeness 1 = .ok (.istore_n 1, 1) := by decide +kernel
theorem dX6_wholeness_2 : decode cX6_wholeness 2 = .ok (.iconst 0, 1) := by decide +kernel
theorem dX6_wholeness_3 : decode cX6_wholeness 3 = .ok (.istore_n 2, 1) := by decide +kernel
theorem dX6_wholeness_4 : decode cX6_wholeness 4 = .ok (.iload_n 2, 1) := by decide +kernel
theorem dX6_wholeness_5 : decode cX6_wholeness 5 = .ok (.bipush 8, 2) := by decide +kernel
theorem dX6_wholeness_7 : decode cX6_wholeness 7 = .ok (.if_icmp .ge 43, 3) := by decide +kernel
theorem dX6_wholeness_10 : decode cX6_wholeness 10 = .ok (.iload_n 1, 1) := by decide +kernel
theorem dX6_wholeness_11 : decode cX6_wholeness 11 = .ok (.aload_n 0, 1) := by decide +kernel
theorem dX6_wholeness_12 : decode cX6_wholeness 12 = .ok (.iload_n 2, 1) := by decide +kernel
theorem dX6_wholeness_13 : decode cX6_wholeness 13 = .ok (.invokevirtual 83, 3) := by decide +kernel
theorem dX6_wholeness_16 : decode cX6_wholeness 16 = .ok (.ifCond .eq 22, 3) := by decide +kernel
theorem dX6_wholeness_19 : decode cX6_wholeness 19 = .ok (.aload_n 0, 1) := by decide +kernel
theorem dX6_wholeness_20 : decode cX6_wholeness 20 = .ok (.getfield 7, 3) := by decide +kernel
theorem dX6_wholeness_23 : decode cX6_wholeness 23 = .ok (.iconst 0, 1) := by decide +kernel
theorem dX6_wholeness_24 : decode cX6_wholeness 24 = .ok (.iload_n 2, 1) := by decide +kernel
theorem dX6_wholeness_25 : decode cX6_wholeness 25 = .ok (.invokestatic 28, 3) := by decide +kernel
theorem dX6_wholeness_28 : decode cX6_wholeness 28 = .ok (.iconst 1, 1) := by decide +kernel
theorem dX6_wholeness_29 : decode cX6_wholeness 29 = .ok (.iadd, 1) := by decide +kernel
theorem dX6_wholeness_30 : decode cX6_wholeness 30 = .ok (.iaload, 1) := by decide +kernel
theorem dX6_wholeness_31 : decode cX6_wholeness 31 = .ok (.ifCond .le 7, 3) := by decide +kernel
theorem dX6_wholeness_34 : decode cX6_wholeness 34 = .ok (.iconst 1, 1) := by decide +kernel
theorem dX6_wholeness_35 : decode cX6_wholeness 35 = .ok (.goto 4, 3) := by decide +kernel
theorem dX6_wholeness_38 : decode cX6_wholeness 38 = .ok (.iconst 0, 1) := by decide +kernel
theorem dX6_wholeness_39 : decode cX6_wholeness 39 = .ok (.invokestatic 36, 3) := by decide +kernel
theorem dX6_wholeness_42 : decode cX6_wholeness 42 = .ok (.iadd, 1) := by decide +kernel
theorem dX6_wholeness_43 : decode cX6_wholeness 43 = .ok (.istore_n 1, 1) := by decide +kernel
theorem dX6_wholeness_44 : decode cX6_wholeness 44 = .ok (.iinc 2 1, 3) := by decide +kernel
theorem dX6_wholeness_47 : decode cX6_wholeness 47 = .ok (.goto (-43), 3) := by decide +kernel
theorem dX6_wholeness_50 : decode cX6_wholeness 50 = .ok (.iload_n 1, 1) := by decide +kernel
theorem dX6_wholeness_51 : decode cX6_wholeness 51 = .ok (.ifCond .ne 7, 3) := by decide +kernel
theorem dX6_wholeness_54 : decode cX6_wholeness 54 = .ok (.dconst 1, 1) := by decide +kernel
theorem dX6_wholeness_55 : decode cX6_wholeness 55 = .ok (.goto 11, 3) := by decide +kernel
theorem dX6_wholeness_58 : decode cX6_wholeness 58 = .ok (.iload_n 1, 1) := by decide +kernel
theorem dX6_wholeness_59 : decode cX6_wholeness 59 = .ok (.i2d, 1) := by decide +kernel
theorem dX6_wholeness_60 : decode cX6_wholeness 60 = .ok (.aload_n 0, 1) := by decide +kernel
theorem dX6_wholeness_61 : decode cX6_wholeness 61 = .ok (.invokevirtual 207, 3) := by decide +kernel
theorem dX6_wholeness_64 : decode cX6_wholeness 64 = .ok (.i2d, 1) := by decide +kernel
theorem dX6_wholeness_65 : decode cX6_wholeness 65 = .ok (.ddiv, 1) := by decide +kernel
theorem dX6_wholeness_66 : decode cX6_wholeness 66 = .ok (.dreturn, 1) := by decide +kernel
