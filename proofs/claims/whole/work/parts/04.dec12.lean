theorem dX0_init_0 : decode cX0_init 0 = .ok (.aload_n 0, 1) := by decide +kernel
theorem dX0_init_1 : decode cX0_init 1 = .ok (.invokespecial 3, 3) := by decide +kernel
theorem dX0_init_4 : decode cX0_init 4 = .ok (.aload_n 0, 1) := by decide +kernel
theorem dX0_init_5 : decode cX0_init 5 = .ok (.bipush 15, 2) := by decide +kernel
theorem dX0_init_7 : decode cX0_init 7 = .ok (.newarray .int, 2) := by decide +kernel
theorem dX0_init_9 : decode cX0_init 9 = .ok (.putfield 9, 3) := by decide +kernel
theorem dX0_init_12 : decode cX0_init 12 = .ok (.aload_n 0, 1) := by decide +kernel
theorem dX0_init_13 : decode cX0_init 13 = .ok (.bipush 15, 2) := by decide +kernel
theorem dX0_init_15 : decode cX0_init 15 = .ok (.newarray .int, 2) := by decide +kernel
theorem dX0_init_17 : decode cX0_init 17 = .ok (.putfield 15, 3) := by decide +kernel
theorem dX0_init_20 : decode cX0_init 20 = .ok (.aload_n 0, 1) := by decide +kernel
theorem dX0_init_21 : decode cX0_init 21 = .ok (.iload_n 1, 1) := by decide +kernel
theorem dX0_init_22 : decode cX0_init 22 = .ok (.putfield 18, 3) := by decide +kernel
theorem dX0_init_25 : decode cX0_init 25 = .ok (.return_, 1) := by decide +kernel
theorem dX0_placeOf_0 : decode cX0_placeOf 0 = .ok (.iconst 0, 1) := by decide +kernel
theorem dX0_placeOf_1 : decode cX0_placeOf 1 = .ok (.istore_n 2, 1) := by decide +kernel
theorem dX0_placeOf_2 : decode cX0_placeOf 2 = .ok (.iload_n 2, 1) := by decide +kernel
theorem dX0_placeOf_3 : decode cX0_placeOf 3 = .ok (.aload_n 0, 1) := by decide +kernel
theorem dX0_placeOf_4 : decode cX0_placeOf 4 = .ok (.getfield 22, 3) := by decide +kernel
theorem dX0_placeOf_7 : decode cX0_placeOf 7 = .ok (.if_icmp .ge 21, 3) := by decide +kernel
theorem dX0_placeOf_10 : decode cX0_placeOf 10 = .ok (.aload_n 0, 1) := by decide +kernel
theorem dX0_placeOf_11 : decode cX0_placeOf 11 = .ok (.getfield 9, 3) := by decide +kernel
theorem dX0_placeOf_14 : decode cX0_placeOf 14 = .ok (.iload_n 2, 1) := by decide +kernel
theorem dX0_placeOf_15 : decode cX0_placeOf 15 = .ok (.iaload, 1) := by decide +kernel
theorem dX0_placeOf_16 : decode cX0_placeOf 16 = .ok (.iload_n 1, 1) := by decide +kernel
theorem dX0_placeOf_17 : decode cX0_placeOf 17 = .ok (.if_icmp .ne 5, 3) := by decide +kernel
theorem dX0_placeOf_20 : decode cX0_placeOf 20 = .ok (.iload_n 2, 1) := by decide +kernel
theorem dX0_placeOf_21 : decode cX0_placeOf 21 = .ok (.ireturn, 1) := by decide +kernel
theorem dX0_placeOf_22 : decode cX0_placeOf 22 = .ok (.iinc 2 1, 3) := by decide +kernel
theorem dX0_placeOf_25 : decode cX0_placeOf 25 = .ok (.goto (-23), 3) := by decide +kernel
theorem dX0_placeOf_28 : decode cX0_placeOf 28 = .ok (.iconst (-1), 1) := by decide +kernel
theorem dX0_placeOf_29 : decode cX0_placeOf 29 = .ok (.ireturn, 1) := by decide +kernel
set_option maxRecDepth 20000 in
theorem ggX0_store_X0_placeOf : GoodIn wsX0_store wsX0_placeOf := goodIn_r _ [8, 3, 2, 9, 10, 11, 12, 13] (by decide +kernel) (by decide +kernel)
set_option maxRecDepth 20000 in
theorem gX0_store_X0_placeOf : GoodIn wsX0_store (wsV RX0 25 RX0 yX0_placeOf wsX0_placeOf) := goodIn_app (goodIn_of _ (by decide +kernel)) ggX0_store_X0_placeOf
theorem dX0_store_0 : decode cX0_store 0 = .ok (.aload_n 0, 1) := by decide +kernel
theorem dX0_store_1 : decode cX0_store 1 = .ok (.iload_n 1, 1) := by decide +kernel
theorem dX0_store_2 : decode cX0_store 2 = .ok (.invokevirtual 25, 3) := by decide +kernel
theorem dX0_store_5 : decode cX0_store 5 = .ok (.istore_n 3, 1) := by decide +kernel
theorem dX0_store_6 : decode cX0_store 6 = .ok (.iload_n 3, 1) := by decide +kernel
theorem dX0_store_7 : decode cX0_store 7 = .ok (.ifCond .lt 12, 3) := by decide +kernel
theorem dX0_store_10 : decode cX0_store 10 = .ok (.aload_n 0, 1) := by decide +kernel
theorem dX0_store_11 : decode cX0_store 11 = .ok (.getfield 15, 3) := by decide +kernel
theorem dX0_store_14 : decode cX0_store 14 = .ok (.iload_n 3, 1) := by decide +kernel
theorem dX0_store_15 : decode cX0_store 15 = .ok (.iload_n 2, 1) := by decide +kernel
theorem dX0_store_16 : decode cX0_store 16 = .ok (.iastore, 1) := by decide +kernel
theorem dX0_store_17 : decode cX0_store 17 = .ok (.iconst 0, 1) := by decide +kernel
theorem dX0_store_18 : decode cX0_store 18 = .ok (.ireturn, 1) := by decide +kernel
theorem dX0_store_19 : decode cX0_store 19 = .ok (.aload_n 0, 1) := by decide +kernel
theorem dX0_store_20 : decode cX0_store 20 = .ok (.getfield 9, 3) := by decide +kernel
theorem dX0_store_23 : decode cX0_store 23 = .ok (.aload_n 0, 1) := by decide +kernel
theorem dX0_store_24 : decode cX0_store 24 = .ok (.getfield 22, 3) := by decide +kernel
theorem dX0_store_27 : decode cX0_store 27 = .ok (.iload_n 1, 1) := by decide +kernel
theorem dX0_store_28 : decode cX0_store 28 = .ok (.iastore, 1) := by decide +kernel
theorem dX0_store_29 : decode cX0_store 29 = .ok (.aload_n 0, 1) := by decide +kernel
theorem dX0_store_30 : decode cX0_store 30 = .ok (.getfield 15, 3) := by decide +kernel
theorem dX0_store_33 : decode cX0_store 33 = .ok (.aload_n 0, 1) := by decide +kernel
theorem dX0_store_34 : decode cX0_store 34 = .ok (.getfield 22, 3) := by decide +kernel
theorem dX0_store_37 : decode cX0_store 37 = .ok (.iload_n 2, 1) := by decide +kernel
theorem dX0_store_38 : decode cX0_store 38 = .ok (.iastore, 1) := by decide +kernel
theorem dX0_store_39 : decode cX0_store 39 = .ok (.aload_n 0, 1) := by decide +kernel
theorem dX0_store_40 : decode cX0_store 40 = .ok (.dup, 1) := by decide +kernel
theorem dX0_store_41 : decode cX0_store 41 = .ok (.getfield 22, 3) := by decide +kernel
theorem dX0_store_44 : decode cX0_store 44 = .ok (.iconst 1, 1) := by decide +kernel
theorem dX0_store_45 : decode cX0_store 45 = .ok (.iadd, 1) := by decide +kernel
theorem dX0_store_46 : decode cX0_store 46 = .ok (.putfield 22, 3) := by decide +kernel
theorem dX0_store_49 : decode cX0_store 49 = .ok (.iconst 1, 1) := by decide +kernel
theorem dX0_store_50 : decode cX0_store 50 = .ok (.ireturn, 1) := by decide +kernel
theorem dX0_drop_0 : decode cX0_drop 0 = .ok (.aload_n 0, 1) := by decide +kernel
theorem dX0_drop_1 : decode cX0_drop 1 = .ok (.dup, 1) := by decide +kernel
theorem dX0_drop_2 : decode cX0_drop 2 = .ok (.getfield 22, 3) := by decide +kernel
theorem dX0_drop_5 : decode cX0_drop 5 = .ok (.iconst 1, 1) := by decide +kernel
theorem dX0_drop_6 : decode cX0_drop 6 = .ok (.isub, 1) := by decide +kernel
theorem dX0_drop_7 : decode cX0_drop 7 = .ok (.putfield 22, 3) := by decide +kernel
theorem dX0_drop_10 : decode cX0_drop 10 = .ok (.aload_n 0, 1) := by decide +kernel
theorem dX0_drop_11 : decode cX0_drop 11 = .ok (.getfield 9, 3) := by decide +kernel
theorem dX0_drop_14 : decode cX0_drop 14 = .ok (.iload_n 1, 1) := by decide +kernel
theorem dX0_drop_15 : decode cX0_drop 15 = .ok (.aload_n 0, 1) := by decide +kernel
theorem dX0_drop_16 : decode cX0_drop 16 = .ok (.getfield 9, 3) := by decide +kernel
theorem dX0_drop_19 : decode cX0_drop 19 = .ok (.aload_n 0, 1) := by decide +kernel
theorem dX0_drop_20 : decode cX0_drop 20 = .ok (.getfield 22, 3) := by decide +kernel
theorem dX0_drop_23 : decode cX0_drop 23 = .ok (.iaload, 1) := by decide +kernel
theorem dX0_drop_24 : decode cX0_drop 24 = .ok (.iastore, 1) := by decide +kernel
theorem dX0_drop_25 : decode cX0_drop 25 = .ok (.aload_n 0, 1) := by decide +kernel
theorem dX0_drop_26 : decode cX0_drop 26 = .ok (.getfield 15, 3) := by decide +kernel
theorem dX0_drop_29 : decode cX0_drop 29 = .ok (.iload_n 1, 1) := by decide +kernel
theorem dX0_drop_30 : decode cX0_drop 30 = .ok (.aload_n 0, 1) := by decide +kernel
theorem dX0_drop_31 : decode cX0_drop 31 = .ok (.getfield 15, 3) := by decide +kernel
theorem dX0_drop_34 : decode cX0_drop 34 = .ok (.aload_n 0, 1) := by decide +kernel
theorem dX0_drop_35 : decode cX0_drop 35 = .ok (.getfield 22, 3) := by decide +kernel
theorem dX0_drop_38 : decode cX0_drop 38 = .ok (.iaload, 1) := by decide +kernel
theorem dX0_drop_39 : decode cX0_drop 39 = .ok (.iastore, 1) := by decide +kernel
theorem dX0_drop_40 : decode cX0_drop 40 = .ok (.return_, 1) := by decide +kernel
set_option maxRecDepth 20000 in
theorem ggX0_changedCopy_X0_init : GoodIn wsX0_changedCopy wsX0_init := goodIn_r _ [9, 10, 11, 12, 13, 5, 6, 14, 15, 16, 17, 18, 19] (by decide +kernel) (by decide +kernel)
set_option maxRecDepth 20000 in
theorem gX0_changedCopy_X0_init : GoodIn wsX0_changedCopy (wsX0_init) := ggX0_changedCopy_X0_init
theorem dX0_changedCopy_0 : decode cX0_changedCopy 0 = .ok (.new 10, 3) := by decide +kernel
theorem dX0_changedCopy_3 : decode cX0_changedCopy 3 = .ok (.dup, 1) := by decide +kernel
theorem dX0_changedCopy_4 : decode cX0_changedCopy 4 = .ok (.iload_n 1, 1) := by decide +kernel
theorem dX0_changedCopy_5 : decode cX0_changedCopy 5 = .ok (.invokespecial 29, 3) := by decide +kernel
theorem dX0_changedCopy_8 : decode cX0_changedCopy 8 = .ok (.astore_n 2, 1) := by decide +kernel
theorem dX0_changedCopy_9 : decode cX0_changedCopy 9 = .ok (.iconst 0, 1) := by decide +kernel
theorem dX0_changedCopy_10 : decode cX0_changedCopy 10 = .ok (.istore_n 3, 1) := by decide +kernel
theorem dX0_changedCopy_11 : decode cX0_changedCopy 11 = .ok (.iload_n 3, 1) := by decide +kernel
theorem dX0_changedCopy_12 : decode cX0_changedCopy 12 = .ok (.aload_n 0, 1) := by decide +kernel
theorem dX0_changedCopy_13 : decode cX0_changedCopy 13 = .ok (.getfield 22, 3) := by decide +kernel
theorem dX0_changedCopy_16 : decode cX0_changedCopy 16 = .ok (.if_icmp .ge 33, 3) := by decide +kernel
theorem dX0_changedCopy_19 : decode cX0_changedCopy 19 = .ok (.aload_n 2, 1) := by decide +kernel
theorem dX0_changedCopy_20 : decode cX0_changedCopy 20 = .ok (.getfield 9, 3) := by decide +kernel
theorem dX0_changedCopy_23 : decode cX0_changedCopy 23 = .ok (.iload_n 3, 1) := by decide +kernel
theorem dX0_changedCopy_24 : decode cX0_changedCopy 24 = .ok (.aload_n 0, 1) := by decide +kernel
theorem dX0_changedCopy_25 : decode cX0_changedCopy 25 = .ok (.getfield 9, 3) := by decide +kernel
theorem dX0_changedCopy_28 : decode cX0_changedCopy 28 = .ok (.iload_n 3, 1) := by decide +kernel
theorem dX0_changedCopy_29 : decode cX0_changedCopy 29 = .ok (.iaload, 1) := by decide +kernel
theorem dX0_changedCopy_30 : decode cX0_changedCopy 30 = .ok (.iastore, 1) := by decide +kernel
theorem dX0_changedCopy_31 : decode cX0_changedCopy 31 = .ok (.aload_n 2, 1) := by decide +kernel
theorem dX0_changedCopy_32 : decode cX0_changedCopy 32 = .ok (.getfield 15, 3) := by decide +kernel
theorem dX0_changedCopy_35 : decode cX0_changedCopy 35 = .ok (.iload_n 3, 1) := by decide +kernel
theorem dX0_changedCopy_36 : decode cX0_changedCopy 36 = .ok (.aload_n 0, 1) := by decide +kernel
theorem dX0_changedCopy_37 : decode cX0_changedCopy 37 = .ok (.getfield 15, 3) := by decide +kernel
theorem dX0_changedCopy_40 : decode cX0_changedCopy 40 = .ok (.iload_n 3, 1) := by decide +kernel
theorem dX0_changedCopy_41 : decode cX0_changedCopy 41 = .ok (.iaload, 1) := by decide +kernel
theorem dX0_changedCopy_42 : decode cX0_changedCopy 42 = .ok (.iastore, 1) := by decide +kernel
theorem dX0_changedCopy_43 : decode cX0_changedCopy 43 = .ok (.iinc 3 1, 3) := by decide +kernel
theorem dX0_changedCopy_46 : decode cX0_changedCopy 46 = .ok (.goto (-35), 3) := by decide +kernel
theorem dX0_changedCopy_49 : decode cX0_changedCopy 49 = .ok (.aload_n 2, 1) := by decide +kernel
theorem dX0_changedCopy_50 : decode cX0_changedCopy 50 = .ok (.aload_n 0, 1) := by decide +kernel
theorem dX0_changedCopy_51 : decode cX0_changedCopy 51 = .ok (.getfield 22, 3) := by decide +kernel
theorem dX0_changedCopy_54 : decode cX0_changedCopy 54 = .ok (.putfield 22, 3) := by decide +kernel
theorem dX0_changedCopy_57 : decode cX0_changedCopy 57 = .ok (.aload_n 2, 1) := by decide +kernel
theorem dX0_changedCopy_58 : decode cX0_changedCopy 58 = .ok (.areturn, 1) := by decide +kernel
set_option maxRecDepth 20000 in
theorem ggX1_init_X2_blocksOfDirectory : GoodIn wsX1_init wsX2_blocksOfDirectory := goodIn_r _ [11] (by decide +kernel) (by decide +kernel)
set_option maxRecDepth 20000 in
theorem gX1_init_X2_blocksOfDirectory_n17 : GoodIn wsX1_init (wsX2_blocksOfDirectory) := ggX1_init_X2_blocksOfDirectory
theorem dX1_init_0 : decode cX1_init 0 = .ok (.aload_n 0, 1) := by decide +kernel
theorem dX1_init_1 : decode cX1_init 1 = .ok (.invokespecial 3, 3) := by decide +kernel
theorem dX1_init_4 : decode cX1_init 4 = .ok (.aload_n 0, 1) := by decide +kernel
theorem dX1_init_5 : decode cX1_init 5 = .ok (.iconst 1, 1) := by decide +kernel
theorem dX1_init_6 : decode cX1_init 6 = .ok (.iload_n 1, 1) := by decide +kernel
theorem dX1_init_7 : decode cX1_init 7 = .ok (.ishl, 1) := by decide +kernel
theorem dX1_init_8 : decode cX1_init 8 = .ok (.anewarray 9, 3) := by decide +kernel
theorem dX1_init_11 : decode cX1_init 11 = .ok (.putfield 11, 3) := by decide +kernel
theorem dX1_init_14 : decode cX1_init 14 = .ok (.iconst 0, 1) := by decide +kernel
theorem dX1_init_15 : decode cX1_init 15 = .ok (.istore_n 3, 1) := by decide +kernel
theorem dX1_init_16 : decode cX1_init 16 = .ok (.iload_n 3, 1) := by decide +kernel
theorem dX1_init_17 : decode cX1_init 17 = .ok (.aload_n 0, 1) := by decide +kernel
theorem dX1_init_18 : decode cX1_init 18 = .ok (.getfield 11, 3) := by decide +kernel
theorem dX1_init_21 : decode cX1_init 21 = .ok (.arraylength, 1) := by decide +kernel
theorem dX1_init_22 : decode cX1_init 22 = .ok (.if_icmp .ge 16, 3) := by decide +kernel
theorem dX1_init_25 : decode cX1_init 25 = .ok (.aload_n 0, 1) := by decide +kernel
theorem dX1_init_26 : decode cX1_init 26 = .ok (.getfield 11, 3) := by decide +kernel
theorem dX1_init_29 : decode cX1_init 29 = .ok (.iload_n 3, 1) := by decide +kernel
theorem dX1_init_30 : decode cX1_init 30 = .ok (.aload_n 2, 1) := by decide +kernel
theorem dX1_init_31 : decode cX1_init 31 = .ok (.aastore, 1) := by decide +kernel
theorem dX1_init_32 : decode cX1_init 32 = .ok (.iinc 3 1, 3) := by decide +kernel
theorem dX1_init_35 : decode cX1_init 35 = .ok (.goto (-19), 3) := by decide +kernel
theorem dX1_init_38 : decode cX1_init 38 = .ok (.aload_n 0, 1) := by decide +kernel
theorem dX1_init_39 : decode cX1_init 39 = .ok (.iload_n 1, 1) := by decide +kernel
theorem dX1_init_40 : decode cX1_init 40 = .ok (.invokestatic 17, 3) := by decide +kernel
theorem dX1_init_43 : decode cX1_init 43 = .ok (.newarray .int, 2) := by decide +kernel
theorem dX1_init_45 : decode cX1_init 45 = .ok (.putfield 21, 3) := by decide +kernel
theorem dX1_init_48 : decode cX1_init 48 = .ok (.aload_n 0, 1) := by decide +kernel
theorem dX1_init_49 : decode cX1_init 49 = .ok (.getfield 21, 3) := by decide +kernel
theorem dX1_init_52 : decode cX1_init 52 = .ok (.iconst 0, 1) := by decide +kernel
theorem dX1_init_53 : decode cX1_init 53 = .ok (.iconst 3, 1) := by decide +kernel
theorem dX1_init_54 : decode cX1_init 54 = .ok (.iastore, 1) := by decide +kernel
theorem dX1_init_55 : decode cX1_init 55 = .ok (.aload_n 0, 1) := by decide +kernel
theorem dX1_init_56 : decode cX1_init 56 = .ok (.iconst 1, 1) := by decide +kernel
theorem dX1_init_57 : decode cX1_init 57 = .ok (.putfield 25, 3) := by decide +kernel
theorem dX1_init_60 : decode cX1_init 60 = .ok (.return_, 1) := by decide +kernel
theorem dX1_entries_0 : decode cX1_entries 0 = .ok (.iconst 1, 1) := by decide +kernel
theorem dX1_entries_1 : decode cX1_entries 1 = .ok (.aload_n 0, 1) := by decide +kernel
theorem dX1_entries_2 : decode cX1_entries 2 = .ok (.getfield 29, 3) := by decide +kernel
theorem dX1_entries_5 : decode cX1_entries 5 = .ok (.ishl, 1) := by decide +kernel
theorem dX1_entries_6 : decode cX1_entries 6 = .ok (.ireturn, 1) := by decide +kernel
set_option maxRecDepth 20000 in
theorem ggX1_bucketOf_X1_entries : GoodIn wsX1_bucketOf wsX1_entries := goodIn_r _ [6, 7, 8, 9, 10, 11, 12] (by decide +kernel) (by decide +kernel)
set_option maxRecDepth 20000 in
theorem gX1_bucketOf_X1_entries : GoodIn wsX1_bucketOf (wsV RX1 32 RX1 yX1_entries wsX1_entries) := goodIn_app (goodIn_of _ (by decide +kernel)) ggX1_bucketOf_X1_entries
theorem dX1_bucketOf_0 : decode cX1_bucketOf 0 = .ok (.aload_n 0, 1) := by decide +kernel
theorem dX1_bucketOf_1 : decode cX1_bucketOf 1 = .ok (.getfield 11, 3) := by decide +kernel
theorem dX1_bucketOf_4 : decode cX1_bucketOf 4 = .ok (.iload_n 1, 1) := by decide +kernel
theorem dX1_bucketOf_5 : decode cX1_bucketOf 5 = .ok (.aload_n 0, 1) := by decide +kernel
theorem dX1_bucketOf_6 : decode cX1_bucketOf 6 = .ok (.invokevirtual 32, 3) := by decide +kernel
theorem dX1_bucketOf_9 : decode cX1_bucketOf 9 = .ok (.iconst 1, 1) := by decide +kernel
theorem dX1_bucketOf_10 : decode cX1_bucketOf 10 = .ok (.isub, 1) := by decide +kernel
theorem dX1_bucketOf_11 : decode cX1_bucketOf 11 = .ok (.iand, 1) := by decide +kernel
theorem dX1_bucketOf_12 : decode cX1_bucketOf 12 = .ok (.aaload, 1) := by decide +kernel
theorem dX1_bucketOf_13 : decode cX1_bucketOf 13 = .ok (.areturn, 1) := by decide +kernel
theorem dX1_makeEmpty_0 : decode cX1_makeEmpty 0 = .ok (.aload_n 0, 1) := by decide +kernel
theorem dX1_makeEmpty_1 : decode cX1_makeEmpty 1 = .ok (.iconst 0, 1) := by decide +kernel
theorem dX1_makeEmpty_2 : decode cX1_makeEmpty 2 = .ok (.putfield 29, 3) := by decide +kernel
theorem dX1_makeEmpty_5 : decode cX1_makeEmpty 5 = .ok (.aload_n 0, 1) := by decide +kernel
theorem dX1_makeEmpty_6 : decode cX1_makeEmpty 6 = .ok (.iconst 1, 1) := by decide +kernel
theorem dX1_makeEmpty_7 : decode cX1_makeEmpty 7 = .ok (.putfield 25, 3) := by decide +kernel
theorem dX1_makeEmpty_10 : decode cX1_makeEmpty 10 = .ok (.aload_n 0, 1) := by decide +kernel
theorem dX1_makeEmpty_11 : decode cX1_makeEmpty 11 = .ok (.iconst 0, 1) := by decide +kernel
theorem dX1_makeEmpty_12 : decode cX1_makeEmpty 12 = .ok (.putfield 36, 3) := by decide +kernel
theorem dX1_makeEmpty_15 : decode cX1_makeEmpty 15 = .ok (.aload_n 0, 1) := by decide +kernel
theorem dX1_makeEmpty_16 : decode cX1_makeEmpty 16 = .ok (.getfield 11, 3) := by decide +kernel
theorem dX1_makeEmpty_19 : decode cX1_makeEmpty 19 = .ok (.iconst 0, 1) := by decide +kernel
theorem dX1_makeEmpty_20 : decode cX1_makeEmpty 20 = .ok (.aload_n 1, 1) := by decide +kernel
theorem dX1_makeEmpty_21 : decode cX1_makeEmpty 21 = .ok (.aastore, 1) := by decide +kernel
theorem dX1_makeEmpty_22 : decode cX1_makeEmpty 22 = .ok (.return_, 1) := by decide +kernel
set_option maxRecDepth 20000 in
theorem ggX1_copyFrom_X1_entries : GoodIn wsX1_copyFrom wsX1_entries := goodIn_r _ [10, 1, 11, 12, 13, 14, 15] (by decide +kernel) (by decide +kernel)
set_option maxRecDepth 20000 in
theorem gX1_copyFrom_X1_entries : GoodIn wsX1_copyFrom (wsV RX1 32 RX1 yX1_entries wsX1_entries) := goodIn_app (goodIn_of _ (by decide +kernel)) ggX1_copyFrom_X1_entries
theorem dX1_copyFrom_0 : decode cX1_copyFrom 0 = .ok (.aload_n 0, 1) := by decide +kernel
theorem dX1_copyFrom_1 : decode cX1_copyFrom 1 = .ok (.aload_n 1, 1) := by decide +kernel
theorem dX1_copyFrom_2 : decode cX1_copyFrom 2 = .ok (.getfield 29, 3) := by decide +kernel
theorem dX1_copyFrom_5 : decode cX1_copyFrom 5 = .ok (.putfield 29, 3) := by decide +kernel
theorem dX1_copyFrom_8 : decode cX1_copyFrom 8 = .ok (.aload_n 0, 1) := by decide +kernel
theorem dX1_copyFrom_9 : decode cX1_copyFrom 9 = .ok (.aload_n 1, 1) := by decide +kernel
theorem dX1_copyFrom_10 : decode cX1_copyFrom 10 = .ok (.getfield 25, 3) := by decide +kernel
theorem dX1_copyFrom_13 : decode cX1_copyFrom 13 = .ok (.putfield 25, 3) := by decide +kernel
theorem dX1_copyFrom_16 : decode cX1_copyFrom 16 = .ok (.aload_n 0, 1) := by decide +kernel
theorem dX1_copyFrom_17 : decode cX1_copyFrom 17 = .ok (.aload_n 1, 1) := by decide +kernel
theorem dX1_copyFrom_18 : decode cX1_copyFrom 18 = .ok (.getfield 36, 3) := by decide +kernel
theorem dX1_copyFrom_21 : decode cX1_copyFrom 21 = .ok (.putfield 36, 3) := by decide +kernel
theorem dX1_copyFrom_24 : decode cX1_copyFrom 24 = .ok (.iconst 0, 1) := by decide +kernel
theorem dX1_copyFrom_25 : decode cX1_copyFrom 25 = .ok (.istore_n 2, 1) := by decide +kernel
theorem dX1_copyFrom_26 : decode cX1_copyFrom 26 = .ok (.iload_n 2, 1) := by decide +kernel
theorem dX1_copyFrom_27 : decode cX1_copyFrom 27 = .ok (.aload_n 0, 1) := by decide +kernel
theorem dX1_copyFrom_28 : decode cX1_copyFrom 28 = .ok (.invokevirtual 32, 3) := by decide +kernel
theorem dX1_copyFrom_31 : decode cX1_copyFrom 31 = .ok (.if_icmp .ge 21, 3) := by decide +kernel
theorem dX1_copyFrom_34 : decode cX1_copyFrom 34 = .ok (.aload_n 0, 1) := by decide +kernel
theorem dX1_copyFrom_35 : decode cX1_copyFrom 35 = .ok (.getfield 11, 3) := by decide +kernel
theorem dX1_copyFrom_38 : decode cX1_copyFrom 38 = .ok (.iload_n 2, 1) := by decide +kernel
theorem dX1_copyFrom_39 : decode cX1_copyFrom 39 = .ok (.aload_n 1, 1) := by decide +kernel
theorem dX1_copyFrom_40 : decode cX1_copyFrom 40 = .ok (.getfield 11, 3) := by decide +kernel
theorem dX1_copyFrom_43 : decode cX1_copyFrom 43 = .ok (.iload_n 2, 1) := by decide +kernel
theorem dX1_copyFrom_44 : decode cX1_copyFrom 44 = .ok (.aaload, 1) := by decide +kernel
theorem dX1_copyFrom_45 : decode cX1_copyFrom 45 = .ok (.aastore, 1) := by decide +kernel
theorem dX1_copyFrom_46 : decode cX1_copyFrom 46 = .ok (.iinc 2 1, 3) := by decide +kernel
theorem dX1_copyFrom_49 : decode cX1_copyFrom 49 = .ok (.goto (-23), 3) := by decide +kernel
theorem dX1_copyFrom_52 : decode cX1_copyFrom 52 = .ok (.iconst 0, 1) := by decide +kernel
theorem dX1_copyFrom_53 : decode cX1_copyFrom 53 = .ok (.istore_n 2, 1) := by decide +kernel
theorem dX1_copyFrom_54 : decode cX1_copyFrom 54 = .ok (.iload_n 2, 1) := by decide +kernel
theorem dX1_copyFrom_55 : decode cX1_copyFrom 55 = .ok (.aload_n 0, 1) := by decide +kernel
theorem dX1_copyFrom_56 : decode cX1_copyFrom 56 = .ok (.getfield 21, 3) := by decide +kernel
theorem dX1_copyFrom_59 : decode cX1_copyFrom 59 = .ok (.arraylength, 1) := by decide +kernel
theorem dX1_copyFrom_60 : decode cX1_copyFrom 60 = .ok (.if_icmp .ge 21, 3) := by decide +kernel
theorem dX1_copyFrom_63 : decode cX1_copyFrom 63 = .ok (.aload_n 0, 1) := by decide +kernel
theorem dX1_copyFrom_64 : decode cX1_copyFrom 64 = .ok (.getfield 21, 3) := by decide +kernel
theorem dX1_copyFrom_67 : decode cX1_copyFrom 67 = .ok (.iload_n 2, 1) := by decide +kernel
theorem dX1_copyFrom_68 : decode cX1_copyFrom 68 = .ok (.aload_n 1, 1) := by decide +kernel
theorem dX1_copyFrom_69 : decode cX1_copyFrom 69 = .ok (.getfield 21, 3) := by decide +kernel
theorem dX1_copyFrom_72 : decode cX1_copyFrom 72 = .ok (.iload_n 2, 1) := by decide +kernel
theorem dX1_copyFrom_73 : decode cX1_copyFrom 73 = .ok (.iaload, 1) := by decide +kernel
theorem dX1_copyFrom_74 : decode cX1_copyFrom 74 = .ok (.iastore, 1) := by decide +kernel
theorem dX1_copyFrom_75 : decode cX1_copyFrom 75 = .ok (.iinc 2 1, 3) := by decide +kernel
theorem dX1_copyFrom_78 : decode cX1_copyFrom 78 = .ok (.goto (-24), 3) := by decide +kernel
theorem dX1_copyFrom_81 : decode cX1_copyFrom 81 = .ok (.return_, 1) := by decide +kernel
set_option maxRecDepth 20000 in
theorem ggX1_enter_X1_entries : GoodIn wsX1_enter wsX1_entries := goodIn_r _ [7, 8, 14, 15, 16, 17, 18] (by decide +kernel) (by decide +kernel)
set_option maxRecDepth 20000 in
theorem gX1_enter_X1_entries : GoodIn wsX1_enter (wsV RX1 32 RX1 yX1_entries wsX1_entries) := goodIn_app (goodIn_of _ (by decide +kernel)) ggX1_enter_X1_entries
theorem dX1_enter_0 : decode cX1_enter 0 = .ok (.iconst 1, 1) := by decide +kernel
theorem dX1_enter_1 : decode cX1_enter 1 = .ok (.aload_n 1, 1) := by decide +kernel
theorem dX1_enter_2 : decode cX1_enter 2 = .ok (.getfield 39, 3) := by decide +kernel
theorem dX1_enter_5 : decode cX1_enter 5 = .ok (.ishl, 1) := by decide +kernel
theorem dX1_enter_6 : decode cX1_enter 6 = .ok (.istore_n 3, 1) := by decide +kernel
theorem dX1_enter_7 : decode cX1_enter 7 = .ok (.iload_n 2, 1) := by decide +kernel
theorem dX1_enter_8 : decode cX1_enter 8 = .ok (.iload_n 3, 1) := by decide +kernel
theorem dX1_enter_9 : decode cX1_enter 9 = .ok (.iconst 1, 1) := by decide +kernel
theorem dX1_enter_10 : decode cX1_enter 10 = .ok (.isub, 1) := by decide +kernel
theorem dX1_enter_11 : decode cX1_enter 11 = .ok (.iand, 1) := by decide +kernel
theorem dX1_enter_12 : decode cX1_enter 12 = .ok (.istore 4, 2) := by decide +kernel
theorem dX1_enter_14 : decode cX1_enter 14 = .ok (.iload 4, 2) := by decide +kernel
theorem dX1_enter_16 : decode cX1_enter 16 = .ok (.aload_n 0, 1) := by decide +kernel
theorem dX1_enter_17 : decode cX1_enter 17 = .ok (.invokevirtual 32, 3) := by decide +kernel
theorem dX1_enter_20 : decode cX1_enter 20 = .ok (.if_icmp .ge 20, 3) := by decide +kernel
theorem dX1_enter_23 : decode cX1_enter 23 = .ok (.aload_n 0, 1) := by decide +kernel
theorem dX1_enter_24 : decode cX1_enter 24 = .ok (.getfield 11, 3) := by decide +kernel
theorem dX1_enter_27 : decode cX1_enter 27 = .ok (.iload 4, 2) := by decide +kernel
theorem dX1_enter_29 : decode cX1_enter 29 = .ok (.aload_n 1, 1) := by decide +kernel
theorem dX1_enter_30 : decode cX1_enter 30 = .ok (.aastore, 1) := by decide +kernel
theorem dX1_enter_31 : decode cX1_enter 31 = .ok (.iload 4, 2) := by decide +kernel
theorem dX1_enter_33 : decode cX1_enter 33 = .ok (.iload_n 3, 1) := by decide +kernel
theorem dX1_enter_34 : decode cX1_enter 34 = .ok (.iadd, 1) := by decide +kernel
theorem dX1_enter_35 : decode cX1_enter 35 = .ok (.istore 4, 2) := by decide +kernel
theorem dX1_enter_37 : decode cX1_enter 37 = .ok (.goto (-23), 3) := by decide +kernel
theorem dX1_enter_40 : decode cX1_enter 40 = .ok (.return_, 1) := by decide +kernel
set_option maxRecDepth 20000 in
theorem ggX1_doubleDirectory_X1_entries : GoodIn wsX1_doubleDirectory wsX1_entries := goodIn_r _ [7, 2, 8, 9, 10, 11, 12] (by decide +kernel) (by decide +kernel)
set_option maxRecDepth 20000 in
theorem gX1_doubleDirectory_X1_entries : GoodIn wsX1_doubleDirectory (wsV RX1 32 RX1 yX1_entries wsX1_entries) := goodIn_app (goodIn_of _ (by decide +kernel)) ggX1_doubleDirectory_X1_entries
theorem dX1_doubleDirectory_0 : decode cX1_doubleDirectory 0 = .ok (.aload_n 0, 1) := by decide +kernel
theorem dX1_doubleDirectory_1 : decode cX1_doubleDirectory 1 = .ok (.invokevirtual 32, 3) := by decide +kernel
theorem dX1_doubleDirectory_4 : decode cX1_doubleDirectory 4 = .ok (.istore_n 1, 1) := by decide +kernel
theorem dX1_doubleDirectory_5 : decode cX1_doubleDirectory 5 = .ok (.iconst 0, 1) := by decide +kernel
theorem dX1_doubleDirectory_6 : decode cX1_doubleDirectory 6 = .ok (.istore_n 2, 1) := by decide +kernel
theorem dX1_doubleDirectory_7 : decode cX1_doubleDirectory 7 = .ok (.iload_n 2, 1) := by decide +kernel
theorem dX1_doubleDirectory_8 : decode cX1_doubleDirectory 8 = .ok (.iload_n 1, 1) := by decide +kernel
theorem dX1_doubleDirectory_9 : decode cX1_doubleDirectory 9 = .ok (.if_icmp .ge 23, 3) := by decide +kernel
theorem dX1_doubleDirectory_12 : decode cX1_doubleDirectory 12 = .ok (.aload_n 0, 1) := by decide +kernel
theorem dX1_doubleDirectory_13 : decode cX1_doubleDirectory 13 = .ok (.getfield 11, 3) := by decide +kernel
theorem dX1_doubleDirectory_16 : decode cX1_doubleDirectory 16 = .ok (.iload_n 1, 1) := by decide +kernel
theorem dX1_doubleDirectory_17 : decode cX1_doubleDirectory 17 = .ok (.iload_n 2, 1) := by decide +kernel
theorem dX1_doubleDirectory_18 : decode cX1_doubleDirectory 18 = .ok (.iadd, 1) := by decide +kernel
theorem dX1_doubleDirectory_19 : decode cX1_doubleDirectory 19 = .ok (.aload_n 0, 1) := by decide +kernel
theorem dX1_doubleDirectory_20 : decode cX1_doubleDirectory 20 = .ok (.getfield 11, 3) := by decide +kernel
theorem dX1_doubleDirectory_23 : decode cX1_doubleDirectory 23 = .ok (.iload_n 2, 1) := by decide +kernel
theorem dX1_doubleDirectory_24 : decode cX1_doubleDirectory 24 = .ok (.aaload, 1) := by decide +kernel
theorem dX1_doubleDirectory_25 : decode cX1_doubleDirectory 25 = .ok (.aastore, 1) := by decide +kernel
theorem dX1_doubleDirectory_26 : decode cX1_doubleDirectory 26 = .ok (.iinc 2 1, 3) := by decide +kernel
theorem dX1_doubleDirectory_29 : decode cX1_doubleDirectory 29 = .ok (.goto (-22), 3) := by decide +kernel
theorem dX1_doubleDirectory_32 : decode cX1_doubleDirectory 32 = .ok (.aload_n 0, 1) := by decide +kernel
theorem dX1_doubleDirectory_33 : decode cX1_doubleDirectory 33 = .ok (.dup, 1) := by decide +kernel
theorem dX1_doubleDirectory_34 : decode cX1_doubleDirectory 34 = .ok (.getfield 29, 3) := by decide +kernel
theorem dX1_doubleDirectory_37 : decode cX1_doubleDirectory 37 = .ok (.iconst 1, 1) := by decide +kernel
theorem dX1_doubleDirectory_38 : decode cX1_doubleDirectory 38 = .ok (.iadd, 1) := by decide +kernel
theorem dX1_doubleDirectory_39 : decode cX1_doubleDirectory 39 = .ok (.putfield 29, 3) := by decide +kernel
theorem dX1_doubleDirectory_42 : decode cX1_doubleDirectory 42 = .ok (.return_, 1) := by decide +kernel
set_option maxRecDepth 20000 in
theorem ggX1_halveWhilePossible_X1_hasBucketOfFullDepth : GoodIn wsX1_halveWhilePossible wsX1_hasBucketOfFullDepth := goodIn_r _ [6, 7, 8, 1, 9, 10, 11, 5, 12, 13, 14, 15, 16, 17, 18, 19, 20, 21, 22] (by decide +kernel) (by decide +kernel)
set_option maxRecDepth 20000 in
theorem gX1_halveWhilePossible_X1_hasBucketOfFullDepth : GoodIn wsX1_halveWhilePossible (wsV RX1 42 RX1 yX1_hasBucketOfFullDepth wsX1_hasBucketOfFullDepth) := goodIn_app (goodIn_of _ (by decide +kernel)) ggX1_halveWhilePossible_X1_hasBucketOfFullDepth
theorem dX1_halveWhilePossible_0 : decode cX1_halveWhilePossible 0 = .ok (.aload_n 0, 1) := by decide +kernel
theorem dX1_halveWhilePossible_1 : decode cX1_halveWhilePossible 1 = .ok (.getfield 29, 3) := by decide +kernel
theorem dX1_halveWhilePossible_4 : decode cX1_halveWhilePossible 4 = .ok (.istore_n 1, 1) := by decide +kernel
theorem dX1_halveWhilePossible_5 : decode cX1_halveWhilePossible 5 = .ok (.iload_n 1, 1) := by decide +kernel
theorem dX1_halveWhilePossible_6 : decode cX1_halveWhilePossible 6 = .ok (.ifCond .le 26, 3) := by decide +kernel
theorem dX1_halveWhilePossible_9 : decode cX1_halveWhilePossible 9 = .ok (.aload_n 0, 1) := by decide +kernel
theorem dX1_halveWhilePossible_10 : decode cX1_halveWhilePossible 10 = .ok (.invokevirtual 42, 3) := by decide +kernel
theorem dX1_halveWhilePossible_13 : decode cX1_halveWhilePossible 13 = .ok (.ifCond .ne 19, 3) := by decide +kernel
theorem dX1_halveWhilePossible_16 : decode cX1_halveWhilePossible 16 = .ok (.aload_n 0, 1) := by decide +kernel
theorem dX1_halveWhilePossible_17 : decode cX1_halveWhilePossible 17 = .ok (.dup, 1) := by decide +kernel
theorem dX1_halveWhilePossible_18 : decode cX1_halveWhilePossible 18 = .ok (.getfield 29, 3) := by decide +kernel
theorem dX1_halveWhilePossible_21 : decode cX1_halveWhilePossible 21 = .ok (.iconst 1, 1) := by decide +kernel
theorem dX1_halveWhilePossible_22 : decode cX1_halveWhilePossible 22 = .ok (.isub, 1) := by decide +kernel
theorem dX1_halveWhilePossible_23 : decode cX1_halveWhilePossible 23 = .ok (.putfield 29, 3) := by decide +kernel
theorem dX1_halveWhilePossible_26 : decode cX1_halveWhilePossible 26 = .ok (.iinc 1 (-1), 3) := by decide +kernel
theorem dX1_halveWhilePossible_29 : decode cX1_halveWhilePossible 29 = .ok (.goto (-24), 3) := by decide +kernel
theorem dX1_halveWhilePossible_32 : decode cX1_halveWhilePossible 32 = .ok (.return_, 1) := by decide +kernel
set_option maxRecDepth 20000 in
theorem ggX1_hasBucketOfFullDepth_X1_entries : GoodIn wsX1_hasBucketOfFullDepth wsX1_entries := goodIn_r _ [8, 3, 9, 10, 11, 12, 13] (by decide +kernel) (by decide +kernel)
set_option maxRecDepth 20000 in
theorem gX1_hasBucketOfFullDepth_X1_entries : GoodIn wsX1_hasBucketOfFullDepth (wsV RX1 32 RX1 yX1_entries wsX1_entries) := goodIn_app (goodIn_of _ (by decide +kernel)) ggX1_hasBucketOfFullDepth_X1_entries
theorem dX1_hasBucketOfFullDepth_0 : decode cX1_hasBucketOfFullDepth 0 = .ok (.iconst 0, 1) := by decide +kernel
theorem dX1_hasBucketOfFullDepth_1 : decode cX1_hasBucketOfFullDepth 1 = .ok (.istore_n 1, 1) := by decide +kernel
theorem dX1_hasBucketOfFullDepth_2 : decode cX1_hasBucketOfFullDepth 2 = .ok (.iload_n 1, 1) := by decide +kernel
theorem dX1_hasBucketOfFullDepth_3 : decode cX1_hasBucketOfFullDepth 3 = .ok (.aload_n 0, 1) := by decide +kernel
theorem dX1_hasBucketOfFullDepth_4 : decode cX1_hasBucketOfFullDepth 4 = .ok (.invokevirtual 32, 3) := by decide +kernel
theorem dX1_hasBucketOfFullDepth_7 : decode cX1_hasBucketOfFullDepth 7 = .ok (.if_icmp .ge 27, 3) := by decide +kernel
theorem dX1_hasBucketOfFullDepth_10 : decode cX1_hasBucketOfFullDepth 10 = .ok (.aload_n 0, 1) := by decide +kernel
theorem dX1_hasBucketOfFullDepth_11 : decode cX1_hasBucketOfFullDepth 11 = .ok (.getfield 11, 3) := by decide +kernel
theorem dX1_hasBucketOfFullDepth_14 : decode cX1_hasBucketOfFullDepth 14 = .ok (.iload_n 1, 1) := by decide +kernel
theorem dX1_hasBucketOfFullDepth_15 : decode cX1_hasBucketOfFullDepth 15 = .ok (.aaload, 1) := by decide +kernel
theorem dX1_hasBucketOfFullDepth_16 : decode cX1_hasBucketOfFullDepth 16 = .ok (.getfield 39, 3) := by decide +kernel
theorem dX1_hasBucketOfFullDepth_19 : decode cX1_hasBucketOfFullDepth 19 = .ok (.aload_n 0, 1) := by decide +kernel
theorem dX1_hasBucketOfFullDepth_20 : decode cX1_hasBucketOfFullDepth 20 = .ok (.getfield 29, 3) := by decide +kernel
theorem dX1_hasBucketOfFullDepth_23 : decode cX1_hasBucketOfFullDepth 23 = .ok (.if_icmp .ne 5, 3) := by decide +kernel
theorem dX1_hasBucketOfFullDepth_26 : decode cX1_hasBucketOfFullDepth 26 = .ok (.iconst 1, 1) := by decide +kernel
theorem dX1_hasBucketOfFullDepth_27 : decode cX1_hasBucketOfFullDepth 27 = .ok (.ireturn, 1) := by decide +kernel
theorem dX1_hasBucketOfFullDepth_28 : decode cX1_hasBucketOfFullDepth 28 = .ok (.iinc 1 1, 3) := by decide +kernel
theorem dX1_hasBucketOfFullDepth_31 : decode cX1_hasBucketOfFullDepth 31 = .ok (.goto (-29), 3) := by decide +kernel
theorem dX1_hasBucketOfFullDepth_34 : decode cX1_hasBucketOfFullDepth 34 = .ok (.iconst 0, 1) := by decide +kernel
theorem dX1_hasBucketOfFullDepth_35 : decode cX1_hasBucketOfFullDepth 35 = .ok (.ireturn, 1) := by decide +kernel
set_option maxRecDepth 20000 in
theorem ggX1_changedBuckets_X1_entries : GoodIn wsX1_changedBuckets wsX1_entries := goodIn_r _ [8, 9, 10, 11, 12, 13, 14] (by decide +kernel) (by decide +kernel)
set_option maxRecDepth 20000 in
theorem gX1_changedBuckets_X1_entries : GoodIn wsX1_changedBuckets (wsV RX1 32 RX1 yX1_entries wsX1_entries) := goodIn_app (goodIn_of _ (by decide +kernel)) ggX1_changedBuckets_X1_entries
theorem dX1_changedBuckets_0 : decode cX1_changedBuckets 0 = .ok (.iconst 0, 1) := by decide +kernel
theorem dX1_changedBuckets_1 : decode cX1_changedBuckets 1 = .ok (.istore_n 1, 1) := by decide +kernel
theorem dX1_changedBuckets_2 : decode cX1_changedBuckets 2 = .ok (.iconst 0, 1) := by decide +kernel
theorem dX1_changedBuckets_3 : decode cX1_changedBuckets 3 = .ok (.istore_n 2, 1) := by decide +kernel
theorem dX1_changedBuckets_4 : decode cX1_changedBuckets 4 = .ok (.iload_n 2, 1) := by decide +kernel
theorem dX1_changedBuckets_5 : decode cX1_changedBuckets 5 = .ok (.aload_n 0, 1) := by decide +kernel
theorem dX1_changedBuckets_6 : decode cX1_changedBuckets 6 = .ok (.invokevirtual 32, 3) := by decide +kernel
theorem dX1_changedBuckets_9 : decode cX1_changedBuckets 9 = .ok (.if_icmp .ge 49, 3) := by decide +kernel
theorem dX1_changedBuckets_12 : decode cX1_changedBuckets 12 = .ok (.iload_n 2, 1) := by decide +kernel
theorem dX1_changedBuckets_13 : decode cX1_changedBuckets 13 = .ok (.iconst 1, 1) := by decide +kernel
theorem dX1_changedBuckets_14 : decode cX1_changedBuckets 14 = .ok (.aload_n 0, 1) := by decide +kernel
theorem dX1_changedBuckets_15 : decode cX1_changedBuckets 15 = .ok (.getfield 11, 3) := by decide +kernel
theorem dX1_changedBuckets_18 : decode cX1_changedBuckets 18 = .ok (.iload_n 2, 1) := by decide +kernel
theorem dX1_changedBuckets_19 : decode cX1_changedBuckets 19 = .ok (.aaload, 1) := by decide +kernel
theorem dX1_changedBuckets_20 : decode cX1_changedBuckets 20 = .ok (.getfield 39, 3) := by decide +kernel
theorem dX1_changedBuckets_23 : decode cX1_changedBuckets 23 = .ok (.ishl, 1) := by decide +kernel
theorem dX1_changedBuckets_24 : decode cX1_changedBuckets 24 = .ok (.if_icmp .ge 7, 3) := by decide +kernel
theorem dX1_changedBuckets_27 : decode cX1_changedBuckets 27 = .ok (.iconst 1, 1) := by decide +kernel
theorem dX1_changedBuckets_28 : decode cX1_changedBuckets 28 = .ok (.goto 4, 3) := by decide +kernel
theorem dX1_changedBuckets_31 : decode cX1_changedBuckets 31 = .ok (.iconst 0, 1) := by decide +kernel
theorem dX1_changedBuckets_32 : decode cX1_changedBuckets 32 = .ok (.istore_n 3, 1) := by decide +kernel
theorem dX1_changedBuckets_33 : decode cX1_changedBuckets 33 = .ok (.iload_n 3, 1) := by decide +kernel
theorem dX1_changedBuckets_34 : decode cX1_changedBuckets 34 = .ok (.ifCond .eq 18, 3) := by decide +kernel
theorem dX1_changedBuckets_37 : decode cX1_changedBuckets 37 = .ok (.aload_n 0, 1) := by decide +kernel
theorem dX1_changedBuckets_38 : decode cX1_changedBuckets 38 = .ok (.getfield 11, 3) := by decide +kernel
theorem dX1_changedBuckets_41 : decode cX1_changedBuckets 41 = .ok (.iload_n 2, 1) := by decide +kernel
theorem dX1_changedBuckets_42 : decode cX1_changedBuckets 42 = .ok (.aaload, 1) := by decide +kernel
theorem dX1_changedBuckets_43 : decode cX1_changedBuckets 43 = .ok (.getfield 46, 3) := by decide +kernel
theorem dX1_changedBuckets_46 : decode cX1_changedBuckets 46 = .ok (.ifCond .ne 6, 3) := by decide +kernel
theorem dX1_changedBuckets_49 : decode cX1_changedBuckets 49 = .ok (.iinc 1 1, 3) := by decide +kernel
theorem dX1_changedBuckets_52 : decode cX1_changedBuckets 52 = .ok (.iinc 2 1, 3) := by decide +kernel
theorem dX1_changedBuckets_55 : decode cX1_changedBuckets 55 = .ok (.goto (-51), 3) := by decide +kernel
theorem dX1_changedBuckets_58 : decode cX1_changedBuckets 58 = .ok (.iload_n 1, 1) := by decide +kernel
theorem dX1_changedBuckets_59 : decode cX1_changedBuckets 59 = .ok (.ireturn, 1) := by decide +kernel
set_option maxRecDepth 20000 in
theorem ggX2_init_X0_init : GoodIn wsX2_init wsX0_init := goodIn_r _ [26, 27, 2, 3, 28, 29, 30, 31, 52, 53, 54, 55, 56] (by decide +kernel) (by decide +kernel)
set_option maxRecDepth 20000 in
theorem gX2_init_X0_init : GoodIn wsX2_init (wsX0_init) := ggX2_init_X0_init
set_option maxRecDepth 20000 in
theorem ggX2_init_X1_init : GoodIn wsX2_init wsX1_init := goodIn_r _ [34, 35, 2, 3, 36, 37, 28, 38, 39, 40, 41, 42, 57, 58, 59, 60, 61] (by decide +kernel) (by decide +kernel)
set_option maxRecDepth 20000 in
theorem gX2_init_X1_init : GoodIn wsX2_init (wsX1_init) := ggX2_init_X1_init
theorem dX2_init_0 : decode cX2_init 0 = .ok (.aload_n 0, 1) := by decide +kernel
theorem dX2_init_1 : decode cX2_init 1 = .ok (.invokespecial 1, 3) := by decide +kernel
theorem dX2_init_4 : decode cX2_init 4 = .ok (.aload_n 0, 1) := by decide +kernel
theorem dX2_init_5 : decode cX2_init 5 = .ok (.bipush 8, 2) := by decide +kernel
theorem dX2_init_7 : decode cX2_init 7 = .ok (.sipush 200, 3) := by decide +kernel
theorem dX2_init_10 : decode cX2_init 10 = .ok (.iload_n 1, 1) := by decide +kernel
theorem dX2_init_11 : decode cX2_init 11 = .ok (.invokestatic 9, 3) := by decide +kernel
theorem dX2_init_14 : decode cX2_init 14 = .ok (.invokestatic 15, 3) := by decide +kernel
theorem dX2_init_17 : decode cX2_init 17 = .ok (.putfield 18, 3) := by decide +kernel
theorem dX2_init_20 : decode cX2_init 20 = .ok (.aload_n 0, 1) := by decide +kernel
theorem dX2_init_21 : decode cX2_init 21 = .ok (.iconst 0, 1) := by decide +kernel
theorem dX2_init_22 : decode cX2_init 22 = .ok (.bipush 8, 2) := by decide +kernel
theorem dX2_init_24 : decode cX2_init 24 = .ok (.iload_n 2, 1) := by decide +kernel
theorem dX2_init_25 : decode cX2_init 25 = .ok (.invokestatic 9, 3) := by decide +kernel
theorem dX2_init_28 : decode cX2_init 28 = .ok (.invokestatic 15, 3) := by decide +kernel
theorem dX2_init_31 : decode cX2_init 31 = .ok (.putfield 22, 3) := by decide +kernel
theorem dX2_init_34 : decode cX2_init 34 = .ok (.new 25, 3) := by decide +kernel
theorem dX2_init_37 : decode cX2_init 37 = .ok (.dup, 1) := by decide +kernel
theorem dX2_init_38 : decode cX2_init 38 = .ok (.iconst 0, 1) := by decide +kernel
theorem dX2_init_39 : decode cX2_init 39 = .ok (.invokespecial 27, 3) := by decide +kernel
theorem dX2_init_42 : decode cX2_init 42 = .ok (.astore_n 3, 1) := by decide +kernel
theorem dX2_init_43 : decode cX2_init 43 = .ok (.aload_n 3, 1) := by decide +kernel
theorem dX2_init_44 : decode cX2_init 44 = .ok (.iconst 2, 1) := by decide +kernel
theorem dX2_init_45 : decode cX2_init 45 = .ok (.putfield 30, 3) := by decide +kernel
theorem dX2_init_48 : decode cX2_init 48 = .ok (.aload_n 0, 1) := by decide +kernel
theorem dX2_init_49 : decode cX2_init 49 = .ok (.new 33, 3) := by decide +kernel
theorem dX2_init_52 : decode cX2_init 52 = .ok (.dup, 1) := by decide +kernel
theorem dX2_init_53 : decode cX2_init 53 = .ok (.aload_n 0, 1) := by decide +kernel
theorem dX2_init_54 : decode cX2_init 54 = .ok (.getfield 22, 3) := by decide +kernel
theorem dX2_init_57 : decode cX2_init 57 = .ok (.aload_n 3, 1) := by decide +kernel
theorem dX2_init_58 : decode cX2_init 58 = .ok (.invokespecial 35, 3) := by decide +kernel
theorem dX2_init_61 : decode cX2_init 61 = .ok (.putfield 38, 3) := by decide +kernel
theorem dX2_init_64 : decode cX2_init 64 = .ok (.aload_n 0, 1) := by decide +kernel
theorem dX2_init_65 : decode cX2_init 65 = .ok (.iconst 2, 1) := by decide +kernel
theorem dX2_init_66 : decode cX2_init 66 = .ok (.anewarray 33, 3) := by decide +kernel
theorem dX2_init_69 : decode cX2_init 69 = .ok (.putfield 42, 3) := by decide +kernel
theorem dX2_init_72 : decode cX2_init 72 = .ok (.iconst 0, 1) := by decide +kernel
theorem dX2_init_73 : decode cX2_init 73 = .ok (.istore 4, 2) := by decide +kernel
theorem dX2_init_75 : decode cX2_init 75 = .ok (.iload 4, 2) := by decide +kernel
theorem dX2_init_77 : decode cX2_init 77 = .ok (.iconst 2, 1) := by decide +kernel
theorem dX2_init_78 : decode cX2_init 78 = .ok (.if_icmp .ge 28, 3) := by decide +kernel
theorem dX2_init_81 : decode cX2_init 81 = .ok (.aload_n 0, 1) := by decide +kernel
theorem dX2_init_82 : decode cX2_init 82 = .ok (.getfield 42, 3) := by decide +kernel
theorem dX2_init_85 : decode cX2_init 85 = .ok (.iload 4, 2) := by decide +kernel
theorem dX2_init_87 : decode cX2_init 87 = .ok (.new 33, 3) := by decide +kernel
theorem dX2_init_90 : decode cX2_init 90 = .ok (.dup, 1) := by decide +kernel
theorem dX2_init_91 : decode cX2_init 91 = .ok (.aload_n 0, 1) := by decide +kernel
theorem dX2_init_92 : decode cX2_init 92 = .ok (.getfield 22, 3) := by decide +kernel
theorem dX2_init_95 : decode cX2_init 95 = .ok (.aload_n 3, 1) := by decide +kernel
theorem dX2_init_96 : decode cX2_init 96 = .ok (.invokespecial 35, 3) := by decide +kernel
theorem dX2_init_99 : decode cX2_init 99 = .ok (.aastore, 1) := by decide +kernel
theorem dX2_init_100 : decode cX2_init 100 = .ok (.iinc 4 1, 3) := by decide +kernel
theorem dX2_init_103 : decode cX2_init 103 = .ok (.goto (-28), 3) := by decide +kernel
theorem dX2_init_106 : decode cX2_init 106 = .ok (.aload_n 0, 1) := by decide +kernel
theorem dX2_init_107 : decode cX2_init 107 = .ok (.aload_n 0, 1) := by decide +kernel
theorem dX2_init_108 : decode cX2_init 108 = .ok (.getfield 18, 3) := by decide +kernel
theorem dX2_init_111 : decode cX2_init 111 = .ok (.newarray .boolean, 2) := by decide +kernel
theorem dX2_init_113 : decode cX2_init 113 = .ok (.putfield 46, 3) := by decide +kernel
theorem dX2_init_116 : decode cX2_init 116 = .ok (.return_, 1) := by decide +kernel
set_option maxRecDepth 20000 in
theorem ggX2_format_X0_init : GoodIn wsX2_format wsX0_init := goodIn_r _ [9, 10, 11, 12, 13, 14, 15, 16, 99, 100, 101, 102, 103] (by decide +kernel) (by decide +kernel)
set_option maxRecDepth 20000 in
theorem gX2_format_X0_init : GoodIn wsX2_format (wsX0_init) := ggX2_format_X0_init
set_option maxRecDepth 20000 in
theorem ggX2_format_X1_makeEmpty : GoodIn wsX2_format wsX1_makeEmpty := goodIn_r _ [21, 22, 23, 24, 25, 104, 105, 106, 107, 108] (by decide +kernel) (by decide +kernel)
set_option maxRecDepth 20000 in
theorem gX2_format_X1_makeEmpty : GoodIn wsX2_format (wsV RX2 55 RX1 yX1_makeEmpty wsX1_makeEmpty) := goodIn_app (goodIn_of _ (by decide +kernel)) ggX2_format_X1_makeEmpty
set_option maxRecDepth 20000 in
theorem ggX2_format_X2_writeChanges : GoodIn wsX2_format wsX2_writeChanges := goodIn_r _ [30, 3, 31, 32, 2, 33, 34, 35, 36, 37, 20, 38, 25, 39, 40, 41, 42, 43, 44, 22, 45, 46, 29, 47, 48, 49, 50, 51, 52, 53, 54, 55, 56, 57, 58, 59, 60, 61, 62, 63, 64, 65, 66, 67, 68, 69, 70, 71, 72, 73, 74, 75, 1, 76, 77, 78, 79, 80, 81, 82, 83, 84, 85, 86, 87, 88, 23, 24, 89, 90, 91, 92, 93, 94, 95, 96, 97, 98, 104, 105, 106, 107, 108, 99, 100, 101, 102, 103] (by decide +kernel) (by decide +kernel)
set_option maxRecDepth 20000 in
theorem gX2_format_X2_writeChanges : GoodIn wsX2_format (wsV RX2 59 RX2 yX2_writeChanges wsX2_writeChanges) := goodIn_app (goodIn_of _ (by decide +kernel)) ggX2_format_X2_writeChanges
theorem dX2_format_0 : decode cX2_format 0 = .ok (.aload_n 0, 1) := by decide +kernel
theorem dX2_format_1 : decode cX2_format 1 = .ok (.getfield 50, 3) := by decide +kernel
theorem dX2_format_4 : decode cX2_format 4 = .ok (.ifCond .eq 6, 3) := by decide +kernel
theorem dX2_format_7 : decode cX2_format 7 = .ok (.ldc 54, 2) := by decide +kernel
theorem dX2_format_9 : decode cX2_format 9 = .ok (.ireturn, 1) := by decide +kernel
theorem dX2_format_10 : decode cX2_format 10 = .ok (.aload_n 0, 1) := by decide +kernel
theorem dX2_format_11 : decode cX2_format 11 = .ok (.getfield 38, 3) := by decide +kernel
theorem dX2_format_14 : decode cX2_format 14 = .ok (.new 25, 3) := by decide +kernel
theorem dX2_format_17 : decode cX2_format 17 = .ok (.dup, 1) := by decide +kernel
theorem dX2_format_18 : decode cX2_format 18 = .ok (.iconst 0, 1) := by decide +kernel
theorem dX2_format_19 : decode cX2_format 19 = .ok (.invokespecial 27, 3) := by decide +kernel
theorem dX2_format_22 : decode cX2_format 22 = .ok (.invokevirtual 55, 3) := by decide +kernel
theorem dX2_format_25 : decode cX2_format 25 = .ok (.aload_n 0, 1) := by decide +kernel
theorem dX2_format_26 : decode cX2_format 26 = .ok (.invokevirtual 59, 3) := by decide +kernel
theorem dX2_format_29 : decode cX2_format 29 = .ok (.ireturn, 1) := by decide +kernel
set_option maxRecDepth 20000 in
theorem ggX2_put_X2_mix : GoodIn wsX2_put wsX2_mix := goodIn_r _ [11, 12] (by decide +kernel) (by decide +kernel)
set_option maxRecDepth 20000 in
theorem gX2_put_X2_mix : GoodIn wsX2_put (va_wsS RX2 63 yX2_mix wsX2_mix) := goodIn_app (goodIn_of _ (by decide +kernel)) ggX2_put_X2_mix
set_option maxRecDepth 20000 in
theorem ggX2_put_X1_bucketOf : GoodIn wsX2_put wsX1_bucketOf := goodIn_r _ [17, 18, 19, 20, 21, 16, 22, 23, 110, 111, 112, 113, 114] (by decide +kernel) (by decide +kernel)
set_option maxRecDepth 20000 in
theorem gX2_put_X1_bucketOf : GoodIn wsX2_put (wsV RX2 67 RX1 yX1_bucketOf wsX1_bucketOf) := goodIn_app (goodIn_of _ (by decide +kernel)) ggX2_put_X1_bucketOf
set_option maxRecDepth 20000 in
theorem ggX2_put_X0_placeOf : GoodIn wsX2_put wsX0_placeOf := goodIn_r _ [28, 29, 30, 105, 106, 107, 108, 109] (by decide +kernel) (by decide +kernel)
set_option maxRecDepth 20000 in
theorem gX2_put_X0_placeOf : GoodIn wsX2_put (wsV RX2 74 RX0 yX0_placeOf wsX0_placeOf) := goodIn_app (goodIn_of _ (by decide +kernel)) ggX2_put_X0_placeOf
set_option maxRecDepth 20000 in
theorem ggX2_put_X2_localDepthWithRoom : GoodIn wsX2_put wsX2_localDepthWithRoom := goodIn_r _ [33, 4, 34, 8, 9, 10, 11, 12, 35, 36, 37, 38, 39, 105, 106, 107, 108, 109] (by decide +kernel) (by decide +kernel)
set_option maxRecDepth 20000 in
theorem gX2_put_X2_localDepthWithRoom : GoodIn wsX2_put (va_wsS RX2 77 yX2_localDepthWithRoom wsX2_localDepthWithRoom) := goodIn_app (goodIn_of _ (by decide +kernel)) ggX2_put_X2_localDepthWithRoom
set_option maxRecDepth 20000 in
theorem ggX2_put_X2_mayBecome : GoodIn wsX2_put wsX2_mayBecome := goodIn_r _ [43, 3, 44, 45, 46, 47, 48, 49, 50, 51, 52, 53, 10, 54, 96, 97, 98, 99, 100, 101, 102, 103, 104, 110, 111, 112, 113, 114] (by decide +kernel) (by decide +kernel)
set_option maxRecDepth 20000 in
theorem gX2_put_X2_mayBecome : GoodIn wsX2_put (wsV RX2 84 RX2 yX2_mayBecome wsX2_mayBecome) := goodIn_app (goodIn_of _ (by decide +kernel)) ggX2_put_X2_mayBecome
set_option maxRecDepth 20000 in
theorem ggX2_put_X2_splitBucketOf : GoodIn wsX2_put wsX2_splitBucketOf := goodIn_r _ [58, 3, 5, 44, 59, 60, 27, 4, 34, 61, 50, 13, 14, 15, 16, 17, 18, 19, 20, 21, 22, 23, 62, 63, 64, 65, 66, 67, 68, 69, 70, 71, 72, 30, 73, 74, 8, 9, 10, 11, 12, 75, 76, 77, 78, 29, 79, 25, 26, 28, 80, 81, 82, 83, 84, 96, 97, 98, 99, 100, 101, 102, 103, 104, 105, 106, 107, 108, 109, 110, 111, 112, 113, 114] (by decide +kernel) (by decide +kernel)
set_option maxRecDepth 20000 in
theorem gX2_put_X2_splitBucketOf : GoodIn wsX2_put (wsV RX2 89 RX2 yX2_splitBucketOf wsX2_splitBucketOf) := goodIn_app (goodIn_of _ (by decide +kernel)) ggX2_put_X2_splitBucketOf
set_option maxRecDepth 20000 in
theorem ggX2_put_X2_changeableBucketOf : GoodIn wsX2_put wsX2_changeableBucketOf := goodIn_r _ [88, 3, 89, 5, 13, 14, 15, 16, 17, 18, 19, 20, 21, 22, 23, 90, 91, 92, 27, 93, 94, 60, 29, 30, 73, 95, 67, 68, 69, 70, 71, 72, 74, 80, 81, 82, 83, 84, 96, 97, 98, 99, 100, 101, 102, 103, 104, 105, 106, 107, 108, 109, 110, 111, 112, 113, 114] (by decide +kernel) (by decide +kernel)
set_option maxRecDepth 20000 in
theorem gX2_put_X2_changeableBucketOf : GoodIn wsX2_put (wsV RX2 92 RX2 yX2_changeableBucketOf wsX2_changeableBucketOf) := goodIn_app (goodIn_of _ (by decide +kernel)) ggX2_put_X2_changeableBucketOf
set_option maxRecDepth 20000 in
theorem ggX2_put_X0_store : GoodIn wsX2_put wsX0_store := goodIn_r _ [78, 73, 30, 29, 79, 25, 26, 27, 28, 105, 106, 107, 108, 109] (by decide +kernel) (by decide +kernel)
set_option maxRecDepth 20000 in
theorem gX2_put_X0_store : GoodIn wsX2_put (wsV RX2 95 RX0 yX0_store wsX0_store) := goodIn_app (goodIn_of _ (by decide +kernel)) ggX2_put_X0_store
theorem dX2_put_0 : decode cX2_put 0 = .ok (.aload_n 0, 1) := by decide +kernel
theorem dX2_put_1 : decode cX2_put 1 = .ok (.getfield 50, 3) := by decide +kernel
theorem dX2_put_4 : decode cX2_put 4 = .ok (.ifCond .eq 6, 3) := by decide +kernel
theorem dX2_put_7 : decode cX2_put 7 = .ok (.ldc 54, 2) := by decide +kernel
theorem dX2_put_9 : decode cX2_put 9 = .ok (.ireturn, 1) := by decide +kernel
theorem dX2_put_10 : decode cX2_put 10 = .ok (.iload_n 1, 1) := by decide +kernel
theorem dX2_put_11 : decode cX2_put 11 = .ok (.invokestatic 63, 3) := by decide +kernel
theorem dX2_put_14 : decode cX2_put 14 = .ok (.istore_n 3, 1) := by decide +kernel
theorem dX2_put_15 : decode cX2_put 15 = .ok (.aload_n 0, 1) := by decide +kernel
theorem dX2_put_16 : decode cX2_put 16 = .ok (.getfield 38, 3) := by decide +kernel
theorem dX2_put_19 : decode cX2_put 19 = .ok (.iload_n 3, 1) := by decide +kernel
theorem dX2_put_20 : decode cX2_put 20 = .ok (.invokevirtual 67, 3) := by decide +kernel
theorem dX2_put_23 : decode cX2_put 23 = .ok (.astore 4, 2) := by decide +kernel
theorem dX2_put_25 : decode cX2_put 25 = .ok (.aload 4, 2) := by decide +kernel
theorem dX2_put_27 : decode cX2_put 27 = .ok (.getfield 71, 3) := by decide +kernel
theorem dX2_put_30 : decode cX2_put 30 = .ok (.bipush 15, 2) := by decide +kernel
theorem dX2_put_32 : decode cX2_put 32 = .ok (.if_icmp .ne 62, 3) := by decide +kernel
theorem dX2_put_35 : decode cX2_put 35 = .ok (.aload 4, 2) := by decide +kernel
theorem dX2_put_37 : decode cX2_put 37 = .ok (.iload_n 1, 1) := by decide +kernel
theorem dX2_put_38 : decode cX2_put 38 = .ok (.invokevirtual 74, 3) := by decide +kernel
theorem dX2_put_41 : decode cX2_put 41 = .ok (.ifCond .ge 53, 3) := by decide +kernel
theorem dX2_put_44 : decode cX2_put 44 = .ok (.aload 4, 2) := by decide +kernel
theorem dX2_put_46 : decode cX2_put 46 = .ok (.iload_n 3, 1) := by decide +kernel
theorem dX2_put_47 : decode cX2_put 47 = .ok (.invokestatic 77, 3) := by decide +kernel
theorem dX2_put_50 : decode cX2_put 50 = .ok (.istore 5, 2) := by decide +kernel
theorem dX2_put_52 : decode cX2_put 52 = .ok (.aload_n 0, 1) := by decide +kernel
theorem dX2_put_53 : decode cX2_put 53 = .ok (.aload 4, 2) := by decide +kernel
theorem dX2_put_55 : decode cX2_put 55 = .ok (.getfield 81, 3) := by decide +kernel
theorem dX2_put_58 : decode cX2_put 58 = .ok (.iload 5, 2) := by decide +kernel
theorem dX2_put_60 : decode cX2_put 60 = .ok (.invokevirtual 84, 3) := by decide +kernel
theorem dX2_put_63 : decode cX2_put 63 = .ok (.ifCond .ne 6, 3) := by decide +kernel
theorem dX2_put_66 : decode cX2_put 66 = .ok (.ldc 88, 2) := by decide +kernel
theorem dX2_put_68 : decode cX2_put 68 = .ok (.ireturn, 1) := by decide +kernel
theorem dX2_put_69 : decode cX2_put 69 = .ok (.aload 4, 2) := by decide +kernel
theorem dX2_put_71 : decode cX2_put 71 = .ok (.getfield 81, 3) := by decide +kernel
theorem dX2_put_74 : decode cX2_put 74 = .ok (.istore 6, 2) := by decide +kernel
theorem dX2_put_76 : decode cX2_put 76 = .ok (.iload 6, 2) := by decide +kernel
theorem dX2_put_78 : decode cX2_put 78 = .ok (.iload 5, 2) := by decide +kernel
theorem dX2_put_80 : decode cX2_put 80 = .ok (.if_icmp .ge 14, 3) := by decide +kernel
theorem dX2_put_83 : decode cX2_put 83 = .ok (.aload_n 0, 1) := by decide +kernel
theorem dX2_put_84 : decode cX2_put 84 = .ok (.iload_n 3, 1) := by decide +kernel
theorem dX2_put_85 : decode cX2_put 85 = .ok (.invokevirtual 89, 3) := by decide +kernel
theorem dX2_put_88 : decode cX2_put 88 = .ok (.iinc 6 1, 3) := by decide +kernel
theorem dX2_put_91 : decode cX2_put 91 = .ok (.goto (-15), 3) := by decide +kernel
theorem dX2_put_94 : decode cX2_put 94 = .ok (.aload_n 0, 1) := by decide +kernel
theorem dX2_put_95 : decode cX2_put 95 = .ok (.iload_n 3, 1) := by decide +kernel
theorem dX2_put_96 : decode cX2_put 96 = .ok (.invokevirtual 92, 3) := by decide +kernel
theorem dX2_put_99 : decode cX2_put 99 = .ok (.iload_n 1, 1) := by decide +kernel
theorem dX2_put_100 : decode cX2_put 100 = .ok (.iload_n 2, 1) := by decide +kernel
theorem dX2_put_101 : decode cX2_put 101 = .ok (.invokevirtual 95, 3) := by decide +kernel
theorem dX2_put_104 : decode cX2_put 104 = .ok (.ifCond .eq 16, 3) := by decide +kernel
theorem dX2_put_107 : decode cX2_put 107 = .ok (.aload_n 0, 1) := by decide +kernel
theorem dX2_put_108 : decode cX2_put 108 = .ok (.getfield 38, 3) := by decide +kernel
theorem dX2_put_111 : decode cX2_put 111 = .ok (.dup, 1) := by decide +kernel
theorem dX2_put_112 : decode cX2_put 112 = .ok (.getfield 98, 3) := by decide +kernel
theorem dX2_put_115 : decode cX2_put 115 = .ok (.iconst 1, 1) := by decide +kernel
theorem dX2_put_116 : decode cX2_put 116 = .ok (.iadd, 1) := by decide +kernel
theorem dX2_put_117 : decode cX2_put 117 = .ok (.putfield 98, 3) := by decide +kernel
theorem dX2_put_120 : decode cX2_put 120 = .ok (.iconst 0, 1) := by decide +kernel
theorem dX2_put_121 : decode cX2_put 121 = .ok (.ireturn, 1) := by decide +kernel
set_option maxRecDepth 20000 in
theorem ggX2_get_X2_mix : GoodIn wsX2_get wsX2_mix := goodIn_r _ [8, 9] (by decide +kernel) (by decide +kernel)
set_option maxRecDepth 20000 in
theorem gX2_get_X2_mix : GoodIn wsX2_get (va_wsS RX2 63 yX2_mix wsX2_mix) := goodIn_app (goodIn_of _ (by decide +kernel)) ggX2_get_X2_mix
set_option maxRecDepth 20000 in
theorem ggX2_get_X1_bucketOf : GoodIn wsX2_get wsX1_bucketOf := goodIn_r _ [14, 15, 16, 17, 18, 13, 19, 20, 42, 43, 44, 45, 46] (by decide +kernel) (by decide +kernel)
set_option maxRecDepth 20000 in
theorem gX2_get_X1_bucketOf : GoodIn wsX2_get (wsV RX2 67 RX1 yX1_bucketOf wsX1_bucketOf) := goodIn_app (goodIn_of _ (by decide +kernel)) ggX2_get_X1_bucketOf
set_option maxRecDepth 20000 in
theorem ggX2_get_X0_placeOf : GoodIn wsX2_get wsX0_placeOf := goodIn_r _ [25, 26, 27, 37, 38, 39, 40, 41] (by decide +kernel) (by decide +kernel)
set_option maxRecDepth 20000 in
theorem gX2_get_X0_placeOf : GoodIn wsX2_get (wsV RX2 74 RX0 yX0_placeOf wsX0_placeOf) := goodIn_app (goodIn_of _ (by decide +kernel)) ggX2_get_X0_placeOf
theorem dX2_get_0 : decode cX2_get 0 = .ok (.aload_n 0, 1) := by decide +kernel
theorem dX2_get_1 : decode cX2_get 1 = .ok (.getfield 50, 3) := by decide +kernel
theorem dX2_get_4 : decode cX2_get 4 = .ok (.ifCond .eq 6, 3) := by decide +kernel
theorem dX2_get_7 : decode cX2_get 7 = .ok (.ldc 54, 2) := by decide +kernel
theorem dX2_get_9 : decode cX2_get 9 = .ok (.ireturn, 1) := by decide +kernel
theorem dX2_get_10 : decode cX2_get 10 = .ok (.aload_n 0, 1) := by decide +kernel
theorem dX2_get_11 : decode cX2_get 11 = .ok (.getfield 38, 3) := by decide +kernel
theorem dX2_get_14 : decode cX2_get 14 = .ok (.iload_n 1, 1) := by decide +kernel
theorem dX2_get_15 : decode cX2_get 15 = .ok (.invokestatic 63, 3) := by decide +kernel
theorem dX2_get_18 : decode cX2_get 18 = .ok (.invokevirtual 67, 3) := by decide +kernel
theorem dX2_get_21 : decode cX2_get 21 = .ok (.astore_n 2, 1) := by decide +kernel
theorem dX2_get_22 : decode cX2_get 22 = .ok (.aload_n 2, 1) := by decide +kernel
theorem dX2_get_23 : decode cX2_get 23 = .ok (.iload_n 1, 1) := by decide +kernel
theorem dX2_get_24 : decode cX2_get 24 = .ok (.invokevirtual 74, 3) := by decide +kernel
theorem dX2_get_27 : decode cX2_get 27 = .ok (.istore_n 3, 1) := by decide +kernel
theorem dX2_get_28 : decode cX2_get 28 = .ok (.iload_n 3, 1) := by decide +kernel
theorem dX2_get_29 : decode cX2_get 29 = .ok (.ifCond .ge 7, 3) := by decide +kernel
theorem dX2_get_32 : decode cX2_get 32 = .ok (.iconst 0, 1) := by decide +kernel
theorem dX2_get_33 : decode cX2_get 33 = .ok (.goto 9, 3) := by decide +kernel
theorem dX2_get_36 : decode cX2_get 36 = .ok (.aload_n 2, 1) := by decide +kernel
theorem dX2_get_37 : decode cX2_get 37 = .ok (.getfield 101, 3) := by decide +kernel
theorem dX2_get_40 : decode cX2_get 40 = .ok (.iload_n 3, 1) := by decide +kernel
theorem dX2_get_41 : decode cX2_get 41 = .ok (.iaload, 1) := by decide +kernel
theorem dX2_get_42 : decode cX2_get 42 = .ok (.ireturn, 1) := by decide +kernel
set_option maxRecDepth 20000 in
theorem ggX2_has_X2_mix : GoodIn wsX2_has wsX2_mix := goodIn_r _ [6, 7] (by decide +kernel) (by decide +kernel)
set_option maxRecDepth 20000 in
theorem gX2_has_X2_mix : GoodIn wsX2_has (va_wsS RX2 63 yX2_mix wsX2_mix) := goodIn_app (goodIn_of _ (by decide +kernel)) ggX2_has_X2_mix
set_option maxRecDepth 20000 in
theorem ggX2_has_X1_bucketOf : GoodIn wsX2_has wsX1_bucketOf := goodIn_r _ [12, 13, 14, 15, 16, 11, 17, 18, 35, 36, 37, 38, 39] (by decide +kernel) (by decide +kernel)
set_option maxRecDepth 20000 in
theorem gX2_has_X1_bucketOf : GoodIn wsX2_has (wsV RX2 67 RX1 yX1_bucketOf wsX1_bucketOf) := goodIn_app (goodIn_of _ (by decide +kernel)) ggX2_has_X1_bucketOf
set_option maxRecDepth 20000 in
theorem ggX2_has_X0_placeOf : GoodIn wsX2_has wsX0_placeOf := goodIn_r _ [23, 24, 25, 40, 41, 42, 43, 44] (by decide +kernel) (by decide +kernel)
set_option maxRecDepth 20000 in
theorem gX2_has_X0_placeOf : GoodIn wsX2_has (wsV RX2 74 RX0 yX0_placeOf wsX0_placeOf) := goodIn_app (goodIn_of _ (by decide +kernel)) ggX2_has_X0_placeOf
theorem dX2_has_0 : decode cX2_has 0 = .ok (.aload_n 0, 1) := by decide +kernel
theorem dX2_has_1 : decode cX2_has 1 = .ok (.getfield 50, 3) := by decide +kernel
theorem dX2_has_4 : decode cX2_has 4 = .ok (.ifCond .ne 25, 3) := by decide +kernel
theorem dX2_has_7 : decode cX2_has 7 = .ok (.aload_n 0, 1) := by decide +kernel
theorem dX2_has_8 : decode cX2_has 8 = .ok (.getfield 38, 3) := by decide +kernel
theorem dX2_has_11 : decode cX2_has 11 = .ok (.iload_n 1, 1) := by decide +kernel
theorem dX2_has_12 : decode cX2_has 12 = .ok (.invokestatic 63, 3) := by decide +kernel
theorem dX2_has_15 : decode cX2_has 15 = .ok (.invokevirtual 67, 3) := by decide +kernel
theorem dX2_has_18 : decode cX2_has 18 = .ok (.iload_n 1, 1) := by decide +kernel
theorem dX2_has_19 : decode cX2_has 19 = .ok (.invokevirtual 74, 3) := by decide +kernel
theorem dX2_has_22 : decode cX2_has 22 = .ok (.ifCond .lt 7, 3) := by decide +kernel
theorem dX2_has_25 : decode cX2_has 25 = .ok (.iconst 1, 1) := by decide +kernel
theorem dX2_has_26 : decode cX2_has 26 = .ok (.goto 4, 3) := by decide +kernel
theorem dX2_has_29 : decode cX2_has 29 = .ok (.iconst 0, 1) := by decide +kernel
theorem dX2_has_30 : decode cX2_has 30 = .ok (.ireturn, 1) := by decide +kernel
set_option maxRecDepth 20000 in
theorem ggX2_remove_X2_mix : GoodIn wsX2_remove wsX2_mix := goodIn_r _ [9, 10] (by decide +kernel) (by decide +kernel)
set_option maxRecDepth 20000 in
theorem gX2_remove_X2_mix : GoodIn wsX2_remove (va_wsS RX2 63 yX2_mix wsX2_mix) := goodIn_app (goodIn_of _ (by decide +kernel)) ggX2_remove_X2_mix
set_option maxRecDepth 20000 in
theorem ggX2_remove_X1_bucketOf : GoodIn wsX2_remove wsX1_bucketOf := goodIn_r _ [15, 16, 17, 18, 19, 14, 20, 21, 82, 83, 84, 85, 86] (by decide +kernel) (by decide +kernel)
set_option maxRecDepth 20000 in
theorem gX2_remove_X1_bucketOf : GoodIn wsX2_remove (wsV RX2 67 RX1 yX1_bucketOf wsX1_bucketOf) := goodIn_app (goodIn_of _ (by decide +kernel)) ggX2_remove_X1_bucketOf
set_option maxRecDepth 20000 in
theorem ggX2_remove_X0_placeOf : GoodIn wsX2_remove wsX0_placeOf := goodIn_r _ [26, 27, 28, 87, 88, 89, 90, 91] (by decide +kernel) (by decide +kernel)
set_option maxRecDepth 20000 in
theorem gX2_remove_X0_placeOf : GoodIn wsX2_remove (wsV RX2 74 RX0 yX0_placeOf wsX0_placeOf) := goodIn_app (goodIn_of _ (by decide +kernel)) ggX2_remove_X0_placeOf
set_option maxRecDepth 20000 in
theorem ggX2_remove_X2_changeableBucketOf : GoodIn wsX2_remove wsX2_changeableBucketOf := goodIn_r _ [32, 3, 33, 34, 11, 12, 13, 14, 15, 16, 17, 18, 19, 20, 21, 35, 36, 37, 25, 38, 39, 40, 27, 28, 41, 42, 43, 44, 45, 46, 47, 48, 49, 50, 51, 52, 53, 54, 73, 74, 75, 76, 77, 78, 79, 80, 81, 87, 88, 89, 90, 91, 82, 83, 84, 85, 86] (by decide +kernel) (by decide +kernel)
set_option maxRecDepth 20000 in
theorem gX2_remove_X2_changeableBucketOf : GoodIn wsX2_remove (wsV RX2 92 RX2 yX2_changeableBucketOf wsX2_changeableBucketOf) := goodIn_app (goodIn_of _ (by decide +kernel)) ggX2_remove_X2_changeableBucketOf
set_option maxRecDepth 20000 in
theorem ggX2_remove_X0_drop : GoodIn wsX2_remove wsX0_drop := goodIn_r _ [58, 27, 28, 41, 87, 88, 89, 90, 91] (by decide +kernel) (by decide +kernel)
set_option maxRecDepth 20000 in
theorem gX2_remove_X0_drop : GoodIn wsX2_remove (wsV RX2 106 RX0 yX0_drop wsX0_drop) := goodIn_app (goodIn_of _ (by decide +kernel)) ggX2_remove_X0_drop
set_option maxRecDepth 20000 in
theorem ggX2_remove_X2_mergeWhileEmpty : GoodIn wsX2_remove wsX2_mergeWhileEmpty := goodIn_r _ [62, 3, 34, 63, 64, 11, 12, 13, 14, 15, 16, 17, 18, 19, 20, 21, 35, 36, 37, 25, 38, 39, 40, 27, 28, 41, 42, 43, 44, 45, 46, 47, 48, 49, 50, 51, 52, 53, 54, 73, 74, 75, 76, 77, 78, 79, 80, 81, 87, 88, 89, 90, 91, 82, 83, 84, 85, 86] (by decide +kernel) (by decide +kernel)
set_option maxRecDepth 20000 in
theorem gX2_remove_X2_mergeWhileEmpty : GoodIn wsX2_remove (wsV RX2 109 RX2 yX2_mergeWhileEmpty wsX2_mergeWhileEmpty) := goodIn_app (goodIn_of _ (by decide +kernel)) ggX2_remove_X2_mergeWhileEmpty
set_option maxRecDepth 20000 in
theorem ggX2_remove_X1_halveWhilePossible : GoodIn wsX2_remove wsX1_halveWhilePossible := goodIn_r _ [68, 21, 69, 70, 71, 14, 72, 16, 54, 17, 18, 19, 20, 82, 83, 84, 85, 86, 87, 88, 89, 90, 91] (by decide +kernel) (by decide +kernel)
set_option maxRecDepth 20000 in
theorem gX2_remove_X1_halveWhilePossible : GoodIn wsX2_remove (wsV RX2 112 RX1 yX1_halveWhilePossible wsX1_halveWhilePossible) := goodIn_app (goodIn_of _ (by decide +kernel)) ggX2_remove_X1_halveWhilePossible
theorem dX2_remove_0 : decode cX2_remove 0 = .ok (.aload_n 0, 1) := by decide +kernel
theorem dX2_remove_1 : decode cX2_remove 1 = .ok (.getfield 50, 3) := by decide +kernel
theorem dX2_remove_4 : decode cX2_remove 4 = .ok (.ifCond .eq 6, 3) := by decide +kernel
theorem dX2_remove_7 : decode cX2_remove 7 = .ok (.ldc 54, 2) := by decide +kernel
theorem dX2_remove_9 : decode cX2_remove 9 = .ok (.ireturn, 1) := by decide +kernel
theorem dX2_remove_10 : decode cX2_remove 10 = .ok (.iload_n 1, 1) := by decide +kernel
theorem dX2_remove_11 : decode cX2_remove 11 = .ok (.invokestatic 63, 3) := by decide +kernel
theorem dX2_remove_14 : decode cX2_remove 14 = .ok (.istore_n 2, 1) := by decide +kernel
theorem dX2_remove_15 : decode cX2_remove 15 = .ok (.aload_n 0, 1) := by decide +kernel
theorem dX2_remove_16 : decode cX2_remove 16 = .ok (.getfield 38, 3) := by decide +kernel
theorem dX2_remove_19 : decode cX2_remove 19 = .ok (.iload_n 2, 1) := by decide +kernel
theorem dX2_remove_20 : decode cX2_remove 20 = .ok (.invokevirtual 67, 3) := by decide +kernel
theorem dX2_remove_23 : decode cX2_remove 23 = .ok (.iload_n 1, 1) := by decide +kernel
theorem dX2_remove_24 : decode cX2_remove 24 = .ok (.invokevirtual 74, 3) := by decide +kernel
theorem dX2_remove_27 : decode cX2_remove 27 = .ok (.istore_n 3, 1) := by decide +kernel
theorem dX2_remove_28 : decode cX2_remove 28 = .ok (.iload_n 3, 1) := by decide +kernel
theorem dX2_remove_29 : decode cX2_remove 29 = .ok (.ifCond .ge 6, 3) := by decide +kernel
theorem dX2_remove_32 : decode cX2_remove 32 = .ok (.ldc 105, 2) := by decide +kernel
theorem dX2_remove_34 : decode cX2_remove 34 = .ok (.ireturn, 1) := by decide +kernel
theorem dX2_remove_35 : decode cX2_remove 35 = .ok (.aload_n 0, 1) := by decide +kernel
theorem dX2_remove_36 : decode cX2_remove 36 = .ok (.iload_n 2, 1) := by decide +kernel
theorem dX2_remove_37 : decode cX2_remove 37 = .ok (.invokevirtual 92, 3) := by decide +kernel
theorem dX2_remove_40 : decode cX2_remove 40 = .ok (.iload_n 3, 1) := by decide +kernel
theorem dX2_remove_41 : decode cX2_remove 41 = .ok (.invokevirtual 106, 3) := by decide +kernel
theorem dX2_remove_44 : decode cX2_remove 44 = .ok (.aload_n 0, 1) := by decide +kernel
theorem dX2_remove_45 : decode cX2_remove 45 = .ok (.getfield 38, 3) := by decide +kernel
theorem dX2_remove_48 : decode cX2_remove 48 = .ok (.dup, 1) := by decide +kernel
theorem dX2_remove_49 : decode cX2_remove 49 = .ok (.getfield 98, 3) := by decide +kernel
theorem dX2_remove_52 : decode cX2_remove 52 = .ok (.iconst 1, 1) := by decide +kernel
theorem dX2_remove_53 : decode cX2_remove 53 = .ok (.isub, 1) := by decide +kernel
theorem dX2_remove_54 : decode cX2_remove 54 = .ok (.putfield 98, 3) := by decide +kernel
theorem dX2_remove_57 : decode cX2_remove 57 = .ok (.aload_n 0, 1) := by decide +kernel
theorem dX2_remove_58 : decode cX2_remove 58 = .ok (.iload_n 2, 1) := by decide +kernel
theorem dX2_remove_59 : decode cX2_remove 59 = .ok (.invokevirtual 109, 3) := by decide +kernel
theorem dX2_remove_62 : decode cX2_remove 62 = .ok (.aload_n 0, 1) := by decide +kernel
theorem dX2_remove_63 : decode cX2_remove 63 = .ok (.getfield 38, 3) := by decide +kernel
theorem dX2_remove_66 : decode cX2_remove 66 = .ok (.invokevirtual 112, 3) := by decide +kernel
theorem dX2_remove_69 : decode cX2_remove 69 = .ok (.iconst 0, 1) := by decide +kernel
theorem dX2_remove_70 : decode cX2_remove 70 = .ok (.ireturn, 1) := by decide +kernel
theorem dX2_size_0 : decode cX2_size 0 = .ok (.aload_n 0, 1) := by decide +kernel
theorem dX2_size_1 : decode cX2_size 1 = .ok (.getfield 50, 3) := by decide +kernel
theorem dX2_size_4 : decode cX2_size 4 = .ok (.ifCond .eq 8, 3) := by decide +kernel
theorem dX2_size_7 : decode cX2_size 7 = .ok (.ldc 54, 2) := by decide +kernel
theorem dX2_size_9 : decode cX2_size 9 = .ok (.goto 10, 3) := by decide +kernel
theorem dX2_size_12 : decode cX2_size 12 = .ok (.aload_n 0, 1) := by decide +kernel
theorem dX2_size_13 : decode cX2_size 13 = .ok (.getfield 38, 3) := by decide +kernel
theorem dX2_size_16 : decode cX2_size 16 = .ok (.getfield 98, 3) := by decide +kernel
theorem dX2_size_19 : decode cX2_size 19 = .ok (.ireturn, 1) := by decide +kernel
theorem dX2_depth_0 : decode cX2_depth 0 = .ok (.aload_n 0, 1) := by decide +kernel
theorem dX2_depth_1 : decode cX2_depth 1 = .ok (.getfield 50, 3) := by decide +kernel
theorem dX2_depth_4 : decode cX2_depth 4 = .ok (.ifCond .eq 8, 3) := by decide +kernel
theorem dX2_depth_7 : decode cX2_depth 7 = .ok (.ldc 54, 2) := by decide +kernel
theorem dX2_depth_9 : decode cX2_depth 9 = .ok (.goto 10, 3) := by decide +kernel
theorem dX2_depth_12 : decode cX2_depth 12 = .ok (.aload_n 0, 1) := by decide +kernel
theorem dX2_depth_13 : decode cX2_depth 13 = .ok (.getfield 38, 3) := by decide +kernel
theorem dX2_depth_16 : decode cX2_depth 16 = .ok (.getfield 115, 3) := by decide +kernel
theorem dX2_depth_19 : decode cX2_depth 19 = .ok (.ireturn, 1) := by decide +kernel
theorem dX2_buckets_0 : decode cX2_buckets 0 = .ok (.aload_n 0, 1) := by decide +kernel
theorem dX2_buckets_1 : decode cX2_buckets 1 = .ok (.getfield 50, 3) := by decide +kernel
theorem dX2_buckets_4 : decode cX2_buckets 4 = .ok (.ifCond .eq 8, 3) := by decide +kernel
theorem dX2_buckets_7 : decode cX2_buckets 7 = .ok (.ldc 54, 2) := by decide +kernel
theorem dX2_buckets_9 : decode cX2_buckets 9 = .ok (.goto 10, 3) := by decide +kernel
theorem dX2_buckets_12 : decode cX2_buckets 12 = .ok (.aload_n 0, 1) := by decide +kernel
theorem dX2_buckets_13 : decode cX2_buckets 13 = .ok (.getfield 38, 3) := by decide +kernel
theorem dX2_buckets_16 : decode cX2_buckets 16 = .ok (.getfield 118, 3) := by decide +kernel
theorem dX2_buckets_19 : decode cX2_buckets 19 = .ok (.ireturn, 1) := by decide +kernel
set_option maxRecDepth 20000 in
theorem ggX2_sync_X2_writeChanges : GoodIn wsX2_sync wsX2_writeChanges := goodIn_r _ [7, 8, 9, 10, 2, 11, 12, 13, 14, 15, 16, 17, 18, 19, 20, 21, 22, 23, 24, 25, 26, 27, 6, 28, 29, 30, 31, 32, 33, 34, 35, 36, 37, 38, 39, 40, 41, 42, 43, 44, 45, 46, 47, 48, 49, 50, 51, 52, 53, 54, 55, 56, 1, 57, 58, 59, 60, 61, 62, 63, 64, 65, 66, 67, 68, 69, 70, 71, 72, 73, 74, 75, 76, 77, 78, 79, 80, 81, 82, 83, 84, 85, 86, 87, 88, 89, 90, 91] (by decide +kernel) (by decide +kernel)
set_option maxRecDepth 20000 in
theorem gX2_sync_X2_writeChanges : GoodIn wsX2_sync (wsV RX2 59 RX2 yX2_writeChanges wsX2_writeChanges) := goodIn_app (goodIn_of _ (by decide +kernel)) ggX2_sync_X2_writeChanges
theorem dX2_sync_0 : decode cX2_sync 0 = .ok (.aload_n 0, 1) := by decide +kernel
theorem dX2_sync_1 : decode cX2_sync 1 = .ok (.getfield 50, 3) := by decide +kernel
theorem dX2_sync_4 : decode cX2_sync 4 = .ok (.ifCond .eq 8, 3) := by decide +kernel
theorem dX2_sync_7 : decode cX2_sync 7 = .ok (.ldc 54, 2) := by decide +kernel
theorem dX2_sync_9 : decode cX2_sync 9 = .ok (.goto 7, 3) := by decide +kernel
theorem dX2_sync_12 : decode cX2_sync 12 = .ok (.aload_n 0, 1) := by decide +kernel
theorem dX2_sync_13 : decode cX2_sync 13 = .ok (.invokevirtual 59, 3) := by decide +kernel
theorem dX2_sync_16 : decode cX2_sync 16 = .ok (.ireturn, 1) := by decide +kernel
theorem dX2_crashAfter_0 : decode cX2_crashAfter 0 = .ok (.aload_n 0, 1) := by decide +kernel
theorem dX2_crashAfter_1 : decode cX2_crashAfter 1 = .ok (.getfield 50, 3) := by decide +kernel
theorem dX2_crashAfter_4 : decode cX2_crashAfter 4 = .ok (.ifCond .ne 12, 3) := by decide +kernel
theorem dX2_crashAfter_7 : decode cX2_crashAfter 7 = .ok (.aload_n 0, 1) := by decide +kernel
theorem dX2_crashAfter_8 : decode cX2_crashAfter 8 = .ok (.iconst 0, 1) := by decide +kernel
theorem dX2_crashAfter_9 : decode cX2_crashAfter 9 = .ok (.iload_n 1, 1) := by decide +kernel
theorem dX2_crashAfter_10 : decode cX2_crashAfter 10 = .ok (.invokestatic 15, 3) := by decide +kernel
theorem dX2_crashAfter_13 : decode cX2_crashAfter 13 = .ok (.putfield 121, 3) := by decide +kernel
theorem dX2_crashAfter_16 : decode cX2_crashAfter 16 = .ok (.return_, 1) := by decide +kernel
set_option maxRecDepth 20000 in
theorem ggX2_recover_X1_copyFrom : GoodIn wsX2_recover wsX1_copyFrom := goodIn_r _ [10, 11, 12, 13, 14, 15, 16, 17, 18, 9, 19, 29, 30, 31, 32, 33] (by decide +kernel) (by decide +kernel)
set_option maxRecDepth 20000 in
theorem gX2_recover_X1_copyFrom : GoodIn wsX2_recover (wsV RX2 127 RX1 yX1_copyFrom wsX1_copyFrom) := goodIn_app (goodIn_of _ (by decide +kernel)) ggX2_recover_X1_copyFrom
theorem dX2_recover_0 : decode cX2_recover 0 = .ok (.aload_n 0, 1) := by decide +kernel
theorem dX2_recover_1 : decode cX2_recover 1 = .ok (.getfield 38, 3) := by decide +kernel
theorem dX2_recover_4 : decode cX2_recover 4 = .ok (.aload_n 0, 1) := by decide +kernel
theorem dX2_recover_5 : decode cX2_recover 5 = .ok (.getfield 42, 3) := by decide +kernel
theorem dX2_recover_8 : decode cX2_recover 8 = .ok (.aload_n 0, 1) := by decide +kernel
theorem dX2_recover_9 : decode cX2_recover 9 = .ok (.getfield 124, 3) := by decide +kernel
theorem dX2_recover_12 : decode cX2_recover 12 = .ok (.aaload, 1) := by decide +kernel
theorem dX2_recover_13 : decode cX2_recover 13 = .ok (.invokevirtual 127, 3) := by decide +kernel
theorem dX2_recover_16 : decode cX2_recover 16 = .ok (.aload_n 0, 1) := by decide +kernel
theorem dX2_recover_17 : decode cX2_recover 17 = .ok (.iconst 0, 1) := by decide +kernel
theorem dX2_recover_18 : decode cX2_recover 18 = .ok (.putfield 50, 3) := by decide +kernel
theorem dX2_recover_21 : decode cX2_recover 21 = .ok (.aload_n 0, 1) := by decide +kernel
theorem dX2_recover_22 : decode cX2_recover 22 = .ok (.iconst 0, 1) := by decide +kernel
theorem dX2_recover_23 : decode cX2_recover 23 = .ok (.putfield 121, 3) := by decide +kernel
theorem dX2_recover_26 : decode cX2_recover 26 = .ok (.iconst 0, 1) := by decide +kernel
theorem dX2_recover_27 : decode cX2_recover 27 = .ok (.ireturn, 1) := by decide +kernel
theorem dX2_writes_0 : decode cX2_writes 0 = .ok (.aload_n 0, 1) := by decide +kernel
theorem dX2_writes_1 : decode cX2_writes 1 = .ok (.getfield 131, 3) := by decide +kernel
theorem dX2_writes_4 : decode cX2_writes 4 = .ok (.ireturn, 1) := by decide +kernel
set_option maxRecDepth 20000 in
theorem ggX2_free_X2_freeBlocks : GoodIn wsX2_free wsX2_freeBlocks := goodIn_r _ [7, 8, 9, 10, 11, 12, 13, 14, 6, 15, 16, 17, 18, 19, 20, 21, 22, 23, 24, 25, 26, 27, 28, 29] (by decide +kernel) (by decide +kernel)
set_option maxRecDepth 20000 in
theorem gX2_free_X2_freeBlocks : GoodIn wsX2_free (wsV RX2 134 RX2 yX2_freeBlocks wsX2_freeBlocks) := goodIn_app (goodIn_of _ (by decide +kernel)) ggX2_free_X2_freeBlocks
theorem dX2_free_0 : decode cX2_free 0 = .ok (.aload_n 0, 1) := by decide +kernel
theorem dX2_free_1 : decode cX2_free 1 = .ok (.getfield 50, 3) := by decide +kernel
theorem dX2_free_4 : decode cX2_free 4 = .ok (.ifCond .eq 8, 3) := by decide +kernel
theorem dX2_free_7 : decode cX2_free 7 = .ok (.ldc 54, 2) := by decide +kernel
theorem dX2_free_9 : decode cX2_free 9 = .ok (.goto 7, 3) := by decide +kernel
theorem dX2_free_12 : decode cX2_free 12 = .ok (.aload_n 0, 1) := by decide +kernel
theorem dX2_free_13 : decode cX2_free 13 = .ok (.invokevirtual 134, 3) := by decide +kernel
theorem dX2_free_16 : decode cX2_free 16 = .ok (.ireturn, 1) := by decide +kernel
set_option maxRecDepth 20000 in
theorem ggX2_bucket_X2_mix : GoodIn wsX2_bucket wsX2_mix := goodIn_r _ [10, 11] (by decide +kernel) (by decide +kernel)
set_option maxRecDepth 20000 in
theorem gX2_bucket_X2_mix : GoodIn wsX2_bucket (va_wsS RX2 63 yX2_mix wsX2_mix) := goodIn_app (goodIn_of _ (by decide +kernel)) ggX2_bucket_X2_mix
set_option maxRecDepth 20000 in
theorem ggX2_bucket_X1_bucketOf : GoodIn wsX2_bucket wsX1_bucketOf := goodIn_r _ [16, 17, 18, 19, 20, 15, 21, 22, 37, 38, 39, 40, 41] (by decide +kernel) (by decide +kernel)
set_option maxRecDepth 20000 in
theorem gX2_bucket_X1_bucketOf : GoodIn wsX2_bucket (wsV RX2 67 RX1 yX1_bucketOf wsX1_bucketOf) := goodIn_app (goodIn_of _ (by decide +kernel)) ggX2_bucket_X1_bucketOf
theorem dX2_bucket_0 : decode cX2_bucket 0 = .ok (.aload_n 0, 1) := by decide +kernel
theorem dX2_bucket_1 : decode cX2_bucket 1 = .ok (.getfield 50, 3) := by decide +kernel
theorem dX2_bucket_4 : decode cX2_bucket 4 = .ok (.ifCond .eq 6, 3) := by decide +kernel
theorem dX2_bucket_7 : decode cX2_bucket 7 = .ok (.ldc 54, 2) := by decide +kernel
theorem dX2_bucket_9 : decode cX2_bucket 9 = .ok (.ireturn, 1) := by decide +kernel
theorem dX2_bucket_10 : decode cX2_bucket 10 = .ok (.aload_n 0, 1) := by decide +kernel
theorem dX2_bucket_11 : decode cX2_bucket 11 = .ok (.getfield 38, 3) := by decide +kernel
theorem dX2_bucket_14 : decode cX2_bucket 14 = .ok (.iload_n 1, 1) := by decide +kernel
theorem dX2_bucket_15 : decode cX2_bucket 15 = .ok (.invokestatic 63, 3) := by decide +kernel
theorem dX2_bucket_18 : decode cX2_bucket 18 = .ok (.invokevirtual 67, 3) := by decide +kernel
theorem dX2_bucket_21 : decode cX2_bucket 21 = .ok (.astore_n 3, 1) := by decide +kernel
theorem dX2_bucket_22 : decode cX2_bucket 22 = .ok (.iload_n 2, 1) := by decide +kernel
theorem dX2_bucket_23 : decode cX2_bucket 23 = .ok (.tableswitch 40 0 2 #[25, 30, 35], 25) := by decide +kernel
theorem dX2_bucket_48 : decode cX2_bucket 48 = .ok (.aload_n 3, 1) := by decide +kernel
theorem dX2_bucket_49 : decode cX2_bucket 49 = .ok (.getfield 81, 3) := by decide +kernel
theorem dX2_bucket_52 : decode cX2_bucket 52 = .ok (.ireturn, 1) := by decide +kernel
theorem dX2_bucket_53 : decode cX2_bucket 53 = .ok (.aload_n 3, 1) := by decide +kernel
theorem dX2_bucket_54 : decode cX2_bucket 54 = .ok (.getfield 71, 3) := by decide +kernel
theorem dX2_bucket_57 : decode cX2_bucket 57 = .ok (.ireturn, 1) := by decide +kernel
theorem dX2_bucket_58 : decode cX2_bucket 58 = .ok (.aload_n 3, 1) := by decide +kernel
theorem dX2_bucket_59 : decode cX2_bucket 59 = .ok (.getfield 30, 3) := by decide +kernel
theorem dX2_bucket_62 : decode cX2_bucket 62 = .ok (.ireturn, 1) := by decide +kernel
theorem dX2_bucket_63 : decode cX2_bucket 63 = .ok (.iconst 0, 1) := by decide +kernel
theorem dX2_bucket_64 : decode cX2_bucket 64 = .ok (.ireturn, 1) := by decide +kernel
theorem dX2_mix_0 : decode cX2_mix 0 = .ok (.iload_n 0, 1) := by decide +kernel
theorem dX2_mix_1 : decode cX2_mix 1 = .ok (.ldc 137, 2) := by decide +kernel
theorem dX2_mix_3 : decode cX2_mix 3 = .ok (.imul, 1) := by decide +kernel
theorem dX2_mix_4 : decode cX2_mix 4 = .ok (.istore_n 1, 1) := by decide +kernel
theorem dX2_mix_5 : decode cX2_mix 5 = .ok (.iload_n 1, 1) := by decide +kernel
theorem dX2_mix_6 : decode cX2_mix 6 = .ok (.iload_n 1, 1) := by decide +kernel
theorem dX2_mix_7 : decode cX2_mix 7 = .ok (.bipush 15, 2) := by decide +kernel
theorem dX2_mix_9 : decode cX2_mix 9 = .ok (.iushr, 1) := by decide +kernel
theorem dX2_mix_10 : decode cX2_mix 10 = .ok (.ixor, 1) := by decide +kernel
theorem dX2_mix_11 : decode cX2_mix 11 = .ok (.ireturn, 1) := by decide +kernel
theorem dX2_blocksOfDirectory_0 : decode cX2_blocksOfDirectory 0 = .ok (.iconst 1, 1) := by decide +kernel
theorem dX2_blocksOfDirectory_1 : decode cX2_blocksOfDirectory 1 = .ok (.iload_n 0, 1) := by decide +kernel
theorem dX2_blocksOfDirectory_2 : decode cX2_blocksOfDirectory 2 = .ok (.ishl, 1) := by decide +kernel
theorem dX2_blocksOfDirectory_3 : decode cX2_blocksOfDirectory 3 = .ok (.bipush 32, 2) := by decide +kernel
theorem dX2_blocksOfDirectory_5 : decode cX2_blocksOfDirectory 5 = .ok (.iadd, 1) := by decide +kernel
theorem dX2_blocksOfDirectory_6 : decode cX2_blocksOfDirectory 6 = .ok (.iconst 1, 1) := by decide +kernel
theorem dX2_blocksOfDirectory_7 : decode cX2_blocksOfDirectory 7 = .ok (.isub, 1) := by decide +kernel
theorem dX2_blocksOfDirectory_8 : decode cX2_blocksOfDirectory 8 = .ok (.bipush 32, 2) := by decide +kernel
theorem dX2_blocksOfDirectory_10 : decode cX2_blocksOfDirectory 10 = .ok (.idiv, 1) := by decide +kernel
theorem dX2_blocksOfDirectory_11 : decode cX2_blocksOfDirectory 11 = .ok (.ireturn, 1) := by decide +kernel
set_option maxRecDepth 20000 in
theorem ggX2_freeBlocks_X2_blocksOfDirectory : GoodIn wsX2_freeBlocks wsX2_blocksOfDirectory := goodIn_r _ [9] (by decide +kernel) (by decide +kernel)
set_option maxRecDepth 20000 in
theorem gX2_freeBlocks_X2_blocksOfDirectory : GoodIn wsX2_freeBlocks (va_wsS RX2 138 yX2_blocksOfDirectory wsX2_blocksOfDirectory) := goodIn_app (goodIn_of _ (by decide +kernel)) ggX2_freeBlocks_X2_blocksOfDirectory
theorem dX2_freeBlocks_0 : decode cX2_freeBlocks 0 = .ok (.aload_n 0, 1) := by decide +kernel
theorem dX2_freeBlocks_1 : decode cX2_freeBlocks 1 = .ok (.getfield 42, 3) := by decide +kernel
theorem dX2_freeBlocks_4 : decode cX2_freeBlocks 4 = .ok (.aload_n 0, 1) := by decide +kernel
theorem dX2_freeBlocks_5 : decode cX2_freeBlocks 5 = .ok (.getfield 124, 3) := by decide +kernel
theorem dX2_freeBlocks_8 : decode cX2_freeBlocks 8 = .ok (.aaload, 1) := by decide +kernel
theorem dX2_freeBlocks_9 : decode cX2_freeBlocks 9 = .ok (.astore_n 1, 1) := by decide +kernel
theorem dX2_freeBlocks_10 : decode cX2_freeBlocks 10 = .ok (.aload_n 0, 1) := by decide +kernel
theorem dX2_freeBlocks_11 : decode cX2_freeBlocks 11 = .ok (.getfield 18, 3) := by decide +kernel
theorem dX2_freeBlocks_14 : decode cX2_freeBlocks 14 = .ok (.iconst 2, 1) := by decide +kernel
theorem dX2_freeBlocks_15 : decode cX2_freeBlocks 15 = .ok (.isub, 1) := by decide +kernel
theorem dX2_freeBlocks_16 : decode cX2_freeBlocks 16 = .ok (.aload_n 1, 1) := by decide +kernel
theorem dX2_freeBlocks_17 : decode cX2_freeBlocks 17 = .ok (.getfield 118, 3) := by decide +kernel
theorem dX2_freeBlocks_20 : decode cX2_freeBlocks 20 = .ok (.isub, 1) := by decide +kernel
theorem dX2_freeBlocks_21 : decode cX2_freeBlocks 21 = .ok (.aload_n 1, 1) := by decide +kernel
theorem dX2_freeBlocks_22 : decode cX2_freeBlocks 22 = .ok (.getfield 115, 3) := by decide +kernel
theorem dX2_freeBlocks_25 : decode cX2_freeBlocks 25 = .ok (.invokestatic 138, 3) := by decide +kernel
theorem dX2_freeBlocks_28 : decode cX2_freeBlocks 28 = .ok (.isub, 1) := by decide +kernel
theorem dX2_freeBlocks_29 : decode cX2_freeBlocks 29 = .ok (.ireturn, 1) := by decide +kernel
set_option maxRecDepth 20000 in
theorem ggX2_localDepthWithRoom_X2_mix : GoodIn wsX2_localDepthWithRoom wsX2_mix := goodIn_r _ [6, 7] (by decide +kernel) (by decide +kernel)
set_option maxRecDepth 20000 in
theorem gX2_localDepthWithRoom_X2_mix : GoodIn wsX2_localDepthWithRoom (va_wsS RX2 63 yX2_mix wsX2_mix) := goodIn_app (goodIn_of _ (by decide +kernel)) ggX2_localDepthWithRoom_X2_mix
set_option maxRecDepth 20000 in
theorem ggX2_localDepthWithRoom_J6_numberOfTrailingZeros_0f7a4 : GoodIn wsX2_localDepthWithRoom wsJ6_numberOfTrailingZeros_0f7a4 := goodIn_r _ [11, 12] (by decide +kernel) (by decide +kernel)
set_option maxRecDepth 20000 in
theorem gX2_localDepthWithRoom_J6_numberOfTrailingZeros_0f7a4 : GoodIn wsX2_localDepthWithRoom (va_wsS RX2 143 yJ6_numberOfTrailingZeros_0f7a4 wsJ6_numberOfTrailingZeros_0f7a4) := goodIn_app (goodIn_of _ (by decide +kernel)) ggX2_localDepthWithRoom_J6_numberOfTrailingZeros_0f7a4
theorem dX2_localDepthWithRoom_0 : decode cX2_localDepthWithRoom 0 = .ok (.iconst 0, 1) := by decide +kernel
theorem dX2_localDepthWithRoom_1 : decode cX2_localDepthWithRoom 1 = .ok (.istore_n 2, 1) := by decide +kernel
theorem dX2_localDepthWithRoom_2 : decode cX2_localDepthWithRoom 2 = .ok (.iconst 0, 1) := by decide +kernel
theorem dX2_localDepthWithRoom_3 : decode cX2_localDepthWithRoom 3 = .ok (.istore_n 3, 1) := by decide +kernel
theorem dX2_localDepthWithRoom_4 : decode cX2_localDepthWithRoom 4 = .ok (.iload_n 3, 1) := by decide +kernel
theorem dX2_localDepthWithRoom_5 : decode cX2_localDepthWithRoom 5 = .ok (.aload_n 0, 1) := by decide +kernel
theorem dX2_localDepthWithRoom_6 : decode cX2_localDepthWithRoom 6 = .ok (.getfield 71, 3) := by decide +kernel
theorem dX2_localDepthWithRoom_9 : decode cX2_localDepthWithRoom 9 = .ok (.if_icmp .ge 23, 3) := by decide +kernel
theorem dX2_localDepthWithRoom_12 : decode cX2_localDepthWithRoom 12 = .ok (.iload_n 2, 1) := by decide +kernel
theorem dX2_localDepthWithRoom_13 : decode cX2_localDepthWithRoom 13 = .ok (.aload_n 0, 1) := by decide +kernel
theorem dX2_localDepthWithRoom_14 : decode cX2_localDepthWithRoom 14 = .ok (.getfield 141, 3) := by decide +kernel
theorem dX2_localDepthWithRoom_17 : decode cX2_localDepthWithRoom 17 = .ok (.iload_n 3, 1) := by decide +kernel
theorem dX2_localDepthWithRoom_18 : decode cX2_localDepthWithRoom 18 = .ok (.iaload, 1) := by decide +kernel
theorem dX2_localDepthWithRoom_19 : decode cX2_localDepthWithRoom 19 = .ok (.invokestatic 63, 3) := by decide +kernel
theorem dX2_localDepthWithRoom_22 : decode cX2_localDepthWithRoom 22 = .ok (.iload_n 1, 1) := by decide +kernel
theorem dX2_localDepthWithRoom_23 : decode cX2_localDepthWithRoom 23 = .ok (.ixor, 1) := by decide +kernel
theorem dX2_localDepthWithRoom_24 : decode cX2_localDepthWithRoom 24 = .ok (.ior, 1) := by decide +kernel
theorem dX2_localDepthWithRoom_25 : decode cX2_localDepthWithRoom 25 = .ok (.istore_n 2, 1) := by decide +kernel
theorem dX2_localDepthWithRoom_26 : decode cX2_localDepthWithRoom 26 = .ok (.iinc 3 1, 3) := by decide +kernel
theorem dX2_localDepthWithRoom_29 : decode cX2_localDepthWithRoom 29 = .ok (.goto (-25), 3) := by decide +kernel
theorem dX2_localDepthWithRoom_32 : decode cX2_localDepthWithRoom 32 = .ok (.iload_n 2, 1) := by decide +kernel
theorem dX2_localDepthWithRoom_33 : decode cX2_localDepthWithRoom 33 = .ok (.invokestatic 143, 3) := by decide +kernel
theorem dX2_localDepthWithRoom_36 : decode cX2_localDepthWithRoom 36 = .ok (.iconst 1, 1) := by decide +kernel
theorem dX2_localDepthWithRoom_37 : decode cX2_localDepthWithRoom 37 = .ok (.iadd, 1) := by decide +kernel
theorem dX2_localDepthWithRoom_38 : decode cX2_localDepthWithRoom 38 = .ok (.ireturn, 1) := by decide +kernel
set_option maxRecDepth 20000 in
theorem ggX2_mayBecome_X2_blocksOfDirectory : GoodIn wsX2_mayBecome wsX2_blocksOfDirectory := goodIn_r _ [13] (by decide +kernel) (by decide +kernel)
set_option maxRecDepth 20000 in
theorem gX2_mayBecome_X2_blocksOfDirectory : GoodIn wsX2_mayBecome (va_wsS RX2 138 yX2_blocksOfDirectory wsX2_blocksOfDirectory) := goodIn_app (goodIn_of _ (by decide +kernel)) ggX2_mayBecome_X2_blocksOfDirectory
theorem dX2_mayBecome_0 : decode cX2_mayBecome 0 = .ok (.aload_n 0, 1) := by decide +kernel
theorem dX2_mayBecome_1 : decode cX2_mayBecome 1 = .ok (.getfield 38, 3) := by decide +kernel
theorem dX2_mayBecome_4 : decode cX2_mayBecome 4 = .ok (.getfield 115, 3) := by decide +kernel
theorem dX2_mayBecome_7 : decode cX2_mayBecome 7 = .ok (.iload_n 2, 1) := by decide +kernel
theorem dX2_mayBecome_8 : decode cX2_mayBecome 8 = .ok (.invokestatic 15, 3) := by decide +kernel
theorem dX2_mayBecome_11 : decode cX2_mayBecome 11 = .ok (.istore_n 3, 1) := by decide +kernel
theorem dX2_mayBecome_12 : decode cX2_mayBecome 12 = .ok (.iload_n 3, 1) := by decide +kernel
theorem dX2_mayBecome_13 : decode cX2_mayBecome 13 = .ok (.aload_n 0, 1) := by decide +kernel
theorem dX2_mayBecome_14 : decode cX2_mayBecome 14 = .ok (.getfield 22, 3) := by decide +kernel
theorem dX2_mayBecome_17 : decode cX2_mayBecome 17 = .ok (.if_icmp .le 5, 3) := by decide +kernel
theorem dX2_mayBecome_20 : decode cX2_mayBecome 20 = .ok (.iconst 0, 1) := by decide +kernel
theorem dX2_mayBecome_21 : decode cX2_mayBecome 21 = .ok (.ireturn, 1) := by decide +kernel
theorem dX2_mayBecome_22 : decode cX2_mayBecome 22 = .ok (.aload_n 0, 1) := by decide +kernel
theorem dX2_mayBecome_23 : decode cX2_mayBecome 23 = .ok (.getfield 38, 3) := by decide +kernel
theorem dX2_mayBecome_26 : decode cX2_mayBecome 26 = .ok (.getfield 118, 3) := by decide +kernel
theorem dX2_mayBecome_29 : decode cX2_mayBecome 29 = .ok (.iload_n 2, 1) := by decide +kernel
theorem dX2_mayBecome_30 : decode cX2_mayBecome 30 = .ok (.iadd, 1) := by decide +kernel
theorem dX2_mayBecome_31 : decode cX2_mayBecome 31 = .ok (.iload_n 1, 1) := by decide +kernel
theorem dX2_mayBecome_32 : decode cX2_mayBecome 32 = .ok (.isub, 1) := by decide +kernel
theorem dX2_mayBecome_33 : decode cX2_mayBecome 33 = .ok (.istore 4, 2) := by decide +kernel
theorem dX2_mayBecome_35 : decode cX2_mayBecome 35 = .ok (.iload 4, 2) := by decide +kernel
theorem dX2_mayBecome_37 : decode cX2_mayBecome 37 = .ok (.iload_n 3, 1) := by decide +kernel
theorem dX2_mayBecome_38 : decode cX2_mayBecome 38 = .ok (.invokestatic 138, 3) := by decide +kernel
theorem dX2_mayBecome_41 : decode cX2_mayBecome 41 = .ok (.iadd, 1) := by decide +kernel
theorem dX2_mayBecome_42 : decode cX2_mayBecome 42 = .ok (.aload_n 0, 1) := by decide +kernel
theorem dX2_mayBecome_43 : decode cX2_mayBecome 43 = .ok (.getfield 18, 3) := by decide +kernel
theorem dX2_mayBecome_46 : decode cX2_mayBecome 46 = .ok (.iconst 2, 1) := by decide +kernel
theorem dX2_mayBecome_47 : decode cX2_mayBecome 47 = .ok (.isub, 1) := by decide +kernel
theorem dX2_mayBecome_48 : decode cX2_mayBecome 48 = .ok (.if_icmp .gt 7, 3) := by decide +kernel
theorem dX2_mayBecome_51 : decode cX2_mayBecome 51 = .ok (.iconst 1, 1) := by decide +kernel
theorem dX2_mayBecome_52 : decode cX2_mayBecome 52 = .ok (.goto 4, 3) := by decide +kernel
theorem dX2_mayBecome_55 : decode cX2_mayBecome 55 = .ok (.iconst 0, 1) := by decide +kernel
theorem dX2_mayBecome_56 : decode cX2_mayBecome 56 = .ok (.ireturn, 1) := by decide +kernel
set_option maxRecDepth 20000 in
theorem ggX2_splitBucketOf_X1_bucketOf : GoodIn wsX2_splitBucketOf wsX1_bucketOf := goodIn_r _ [15, 16, 17, 18, 19, 14, 20, 21, 69, 70, 71, 72, 73] (by decide +kernel) (by decide +kernel)
set_option maxRecDepth 20000 in
theorem gX2_splitBucketOf_X1_bucketOf : GoodIn wsX2_splitBucketOf (wsV RX2 67 RX1 yX1_bucketOf wsX1_bucketOf) := goodIn_app (goodIn_of _ (by decide +kernel)) ggX2_splitBucketOf_X1_bucketOf
set_option maxRecDepth 20000 in
theorem ggX2_splitBucketOf_X1_doubleDirectory : GoodIn wsX2_splitBucketOf wsX1_doubleDirectory := goodIn_r _ [25, 16, 21, 17, 18, 19, 14, 20, 69, 70, 71, 72, 73] (by decide +kernel) (by decide +kernel)
set_option maxRecDepth 20000 in
theorem gX2_splitBucketOf_X1_doubleDirectory : GoodIn wsX2_splitBucketOf (wsV RX2 148 RX1 yX1_doubleDirectory wsX1_doubleDirectory) := goodIn_app (goodIn_of _ (by decide +kernel)) ggX2_splitBucketOf_X1_doubleDirectory
set_option maxRecDepth 20000 in
theorem ggX2_splitBucketOf_X0_init : GoodIn wsX2_splitBucketOf wsX0_init := goodIn_r _ [28, 29, 30, 31, 32, 33, 34, 35, 64, 65, 66, 67, 68] (by decide +kernel) (by decide +kernel)
set_option maxRecDepth 20000 in
theorem gX2_splitBucketOf_X0_init : GoodIn wsX2_splitBucketOf (wsX0_init) := ggX2_splitBucketOf_X0_init
set_option maxRecDepth 20000 in
theorem ggX2_splitBucketOf_X2_mix : GoodIn wsX2_splitBucketOf wsX2_mix := goodIn_r _ [39, 40] (by decide +kernel) (by decide +kernel)
set_option maxRecDepth 20000 in
theorem gX2_splitBucketOf_X2_mix : GoodIn wsX2_splitBucketOf (va_wsS RX2 63 yX2_mix wsX2_mix) := goodIn_app (goodIn_of _ (by decide +kernel)) ggX2_splitBucketOf_X2_mix
set_option maxRecDepth 20000 in
theorem ggX2_splitBucketOf_X0_store : GoodIn wsX2_splitBucketOf wsX0_store := goodIn_r _ [44, 34, 33, 45, 46, 47, 48, 6, 49, 64, 65, 66, 67, 68] (by decide +kernel) (by decide +kernel)
set_option maxRecDepth 20000 in
theorem gX2_splitBucketOf_X0_store : GoodIn wsX2_splitBucketOf (wsV RX2 95 RX0 yX0_store wsX0_store) := goodIn_app (goodIn_of _ (by decide +kernel)) ggX2_splitBucketOf_X0_store
set_option maxRecDepth 20000 in
theorem ggX2_splitBucketOf_X1_enter : GoodIn wsX2_splitBucketOf wsX1_enter := goodIn_r _ [53, 54, 16, 17, 18, 19, 14, 20, 21, 64, 65, 66, 67, 68, 69, 70, 71, 72, 73] (by decide +kernel) (by decide +kernel)
set_option maxRecDepth 20000 in
theorem gX2_splitBucketOf_X1_enter : GoodIn wsX2_splitBucketOf (wsV RX2 151 RX1 yX1_enter wsX1_enter) := goodIn_app (goodIn_of _ (by decide +kernel)) ggX2_splitBucketOf_X1_enter
theorem dX2_splitBucketOf_0 : decode cX2_splitBucketOf 0 = .ok (.aload_n 0, 1) := by decide +kernel
theorem dX2_splitBucketOf_1 : decode cX2_splitBucketOf 1 = .ok (.getfield 38, 3) := by decide +kernel
theorem dX2_splitBucketOf_4 : decode cX2_splitBucketOf 4 = .ok (.iload_n 1, 1) := by decide +kernel
theorem dX2_splitBucketOf_5 : decode cX2_splitBucketOf 5 = .ok (.invokevirtual 67, 3) := by decide +kernel
theorem dX2_splitBucketOf_8 : decode cX2_splitBucketOf 8 = .ok (.astore_n 2, 1) := by decide +kernel
theorem dX2_splitBucketOf_9 : decode cX2_splitBucketOf 9 = .ok (.aload_n 2, 1) := by decide +kernel
theorem dX2_splitBucketOf_10 : decode cX2_splitBucketOf 10 = .ok (.getfield 81, 3) := by decide +kernel
theorem dX2_splitBucketOf_13 : decode cX2_splitBucketOf 13 = .ok (.aload_n 0, 1) := by decide +kernel
theorem dX2_splitBucketOf_14 : decode cX2_splitBucketOf 14 = .ok (.getfield 38, 3) := by decide +kernel
theorem dX2_splitBucketOf_17 : decode cX2_splitBucketOf 17 = .ok (.getfield 115, 3) := by decide +kernel
theorem dX2_splitBucketOf_20 : decode cX2_splitBucketOf 20 = .ok (.if_icmp .ne 10, 3) := by decide +kernel
theorem dX2_splitBucketOf_23 : decode cX2_splitBucketOf 23 = .ok (.aload_n 0, 1) := by decide +kernel
theorem dX2_splitBucketOf_24 : decode cX2_splitBucketOf 24 = .ok (.getfield 38, 3) := by decide +kernel
theorem dX2_splitBucketOf_27 : decode cX2_splitBucketOf 27 = .ok (.invokevirtual 148, 3) := by decide +kernel
theorem dX2_splitBucketOf_30 : decode cX2_splitBucketOf 30 = .ok (.iconst 1, 1) := by decide +kernel
theorem dX2_splitBucketOf_31 : decode cX2_splitBucketOf 31 = .ok (.aload_n 2, 1) := by decide +kernel
theorem dX2_splitBucketOf_32 : decode cX2_splitBucketOf 32 = .ok (.getfield 81, 3) := by decide +kernel
theorem dX2_splitBucketOf_35 : decode cX2_splitBucketOf 35 = .ok (.ishl, 1) := by decide +kernel
theorem dX2_splitBucketOf_36 : decode cX2_splitBucketOf 36 = .ok (.istore_n 3, 1) := by decide +kernel
theorem dX2_splitBucketOf_37 : decode cX2_splitBucketOf 37 = .ok (.new 25, 3) := by decide +kernel
theorem dX2_splitBucketOf_40 : decode cX2_splitBucketOf 40 = .ok (.dup, 1) := by decide +kernel
theorem dX2_splitBucketOf_41 : decode cX2_splitBucketOf 41 = .ok (.aload_n 2, 1) := by decide +kernel
theorem dX2_splitBucketOf_42 : decode cX2_splitBucketOf 42 = .ok (.getfield 81, 3) := by decide +kernel
theorem dX2_splitBucketOf_45 : decode cX2_splitBucketOf 45 = .ok (.iconst 1, 1) := by decide +kernel
theorem dX2_splitBucketOf_46 : decode cX2_splitBucketOf 46 = .ok (.iadd, 1) := by decide +kernel
theorem dX2_splitBucketOf_47 : decode cX2_splitBucketOf 47 = .ok (.invokespecial 27, 3) := by decide +kernel
theorem dX2_splitBucketOf_50 : decode cX2_splitBucketOf 50 = .ok (.astore 4, 2) := by decide +kernel
theorem dX2_splitBucketOf_52 : decode cX2_splitBucketOf 52 = .ok (.new 25, 3) := by decide +kernel
theorem dX2_splitBucketOf_55 : decode cX2_splitBucketOf 55 = .ok (.dup, 1) := by decide +kernel
theorem dX2_splitBucketOf_56 : decode cX2_splitBucketOf 56 = .ok (.aload_n 2, 1) := by decide +kernel
theorem dX2_splitBucketOf_57 : decode cX2_splitBucketOf 57 = .ok (.getfield 81, 3) := by decide +kernel
theorem dX2_splitBucketOf_60 : decode cX2_splitBucketOf 60 = .ok (.iconst 1, 1) := by decide +kernel
theorem dX2_splitBucketOf_61 : decode cX2_splitBucketOf 61 = .ok (.iadd, 1) := by decide +kernel
theorem dX2_splitBucketOf_62 : decode cX2_splitBucketOf 62 = .ok (.invokespecial 27, 3) := by decide +kernel
theorem dX2_splitBucketOf_65 : decode cX2_splitBucketOf 65 = .ok (.astore 5, 2) := by decide +kernel
theorem dX2_splitBucketOf_67 : decode cX2_splitBucketOf 67 = .ok (.iconst 0, 1) := by decide +kernel
theorem dX2_splitBucketOf_68 : decode cX2_splitBucketOf 68 = .ok (.istore 6, 2) := by decide +kernel
theorem dX2_splitBucketOf_70 : decode cX2_splitBucketOf 70 = .ok (.iload 6, 2) := by decide +kernel
theorem dX2_splitBucketOf_72 : decode cX2_splitBucketOf 72 = .ok (.aload_n 2, 1) := by decide +kernel
theorem dX2_splitBucketOf_73 : decode cX2_splitBucketOf 73 = .ok (.getfield 71, 3) := by decide +kernel
theorem dX2_splitBucketOf_76 : decode cX2_splitBucketOf 76 = .ok (.if_icmp .ge 53, 3) := by decide +kernel
theorem dX2_splitBucketOf_79 : decode cX2_splitBucketOf 79 = .ok (.aload_n 2, 1) := by decide +kernel
theorem dX2_splitBucketOf_80 : decode cX2_splitBucketOf 80 = .ok (.getfield 141, 3) := by decide +kernel
theorem dX2_splitBucketOf_83 : decode cX2_splitBucketOf 83 = .ok (.iload 6, 2) := by decide +kernel
theorem dX2_splitBucketOf_85 : decode cX2_splitBucketOf 85 = .ok (.iaload, 1) := by decide +kernel
theorem dX2_splitBucketOf_86 : decode cX2_splitBucketOf 86 = .ok (.invokestatic 63, 3) := by decide +kernel
theorem dX2_splitBucketOf_89 : decode cX2_splitBucketOf 89 = .ok (.iload_n 3, 1) := by decide +kernel
theorem dX2_splitBucketOf_90 : decode cX2_splitBucketOf 90 = .ok (.iand, 1) := by decide +kernel
theorem dX2_splitBucketOf_91 : decode cX2_splitBucketOf 91 = .ok (.ifCond .ne 8, 3) := by decide +kernel
theorem dX2_splitBucketOf_94 : decode cX2_splitBucketOf 94 = .ok (.aload 4, 2) := by decide +kernel
theorem dX2_splitBucketOf_96 : decode cX2_splitBucketOf 96 = .ok (.goto 5, 3) := by decide +kernel
theorem dX2_splitBucketOf_99 : decode cX2_splitBucketOf 99 = .ok (.aload 5, 2) := by decide +kernel
theorem dX2_splitBucketOf_101 : decode cX2_splitBucketOf 101 = .ok (.astore 7, 2) := by decide +kernel
theorem dX2_splitBucketOf_103 : decode cX2_splitBucketOf 103 = .ok (.aload 7, 2) := by decide +kernel
theorem dX2_splitBucketOf_105 : decode cX2_splitBucketOf 105 = .ok (.aload_n 2, 1) := by decide +kernel
theorem dX2_splitBucketOf_106 : decode cX2_splitBucketOf 106 = .ok (.getfield 141, 3) := by decide +kernel
theorem dX2_splitBucketOf_109 : decode cX2_splitBucketOf 109 = .ok (.iload 6, 2) := by decide +kernel
theorem dX2_splitBucketOf_111 : decode cX2_splitBucketOf 111 = .ok (.iaload, 1) := by decide +kernel
theorem dX2_splitBucketOf_112 : decode cX2_splitBucketOf 112 = .ok (.aload_n 2, 1) := by decide +kernel
theorem dX2_splitBucketOf_113 : decode cX2_splitBucketOf 113 = .ok (.getfield 101, 3) := by decide +kernel
theorem dX2_splitBucketOf_116 : decode cX2_splitBucketOf 116 = .ok (.iload 6, 2) := by decide +kernel
theorem dX2_splitBucketOf_118 : decode cX2_splitBucketOf 118 = .ok (.iaload, 1) := by decide +kernel
theorem dX2_splitBucketOf_119 : decode cX2_splitBucketOf 119 = .ok (.invokevirtual 95, 3) := by decide +kernel
theorem dX2_splitBucketOf_122 : decode cX2_splitBucketOf 122 = .ok (.pop, 1) := by decide +kernel
theorem dX2_splitBucketOf_123 : decode cX2_splitBucketOf 123 = .ok (.iinc 6 1, 3) := by decide +kernel
theorem dX2_splitBucketOf_126 : decode cX2_splitBucketOf 126 = .ok (.goto (-56), 3) := by decide +kernel
theorem dX2_splitBucketOf_129 : decode cX2_splitBucketOf 129 = .ok (.aload_n 0, 1) := by decide +kernel
theorem dX2_splitBucketOf_130 : decode cX2_splitBucketOf 130 = .ok (.getfield 38, 3) := by decide +kernel
theorem dX2_splitBucketOf_133 : decode cX2_splitBucketOf 133 = .ok (.aload 4, 2) := by decide +kernel
theorem dX2_splitBucketOf_135 : decode cX2_splitBucketOf 135 = .ok (.iload_n 1, 1) := by decide +kernel
theorem dX2_splitBucketOf_136 : decode cX2_splitBucketOf 136 = .ok (.iload_n 3, 1) := by decide +kernel
theorem dX2_splitBucketOf_137 : decode cX2_splitBucketOf 137 = .ok (.iconst (-1), 1) := by decide +kernel
theorem dX2_splitBucketOf_138 : decode cX2_splitBucketOf 138 = .ok (.ixor, 1) := by decide +kernel
theorem dX2_splitBucketOf_139 : decode cX2_splitBucketOf 139 = .ok (.iand, 1) := by decide +kernel
theorem dX2_splitBucketOf_140 : decode cX2_splitBucketOf 140 = .ok (.invokevirtual 151, 3) := by decide +kernel
theorem dX2_splitBucketOf_143 : decode cX2_splitBucketOf 143 = .ok (.aload_n 0, 1) := by decide +kernel
theorem dX2_splitBucketOf_144 : decode cX2_splitBucketOf 144 = .ok (.getfield 38, 3) := by decide +kernel
theorem dX2_splitBucketOf_147 : decode cX2_splitBucketOf 147 = .ok (.aload 5, 2) := by decide +kernel
theorem dX2_splitBucketOf_149 : decode cX2_splitBucketOf 149 = .ok (.iload_n 1, 1) := by decide +kernel
theorem dX2_splitBucketOf_150 : decode cX2_splitBucketOf 150 = .ok (.iload_n 3, 1) := by decide +kernel
theorem dX2_splitBucketOf_151 : decode cX2_splitBucketOf 151 = .ok (.ior, 1) := by decide +kernel
theorem dX2_splitBucketOf_152 : decode cX2_splitBucketOf 152 = .ok (.invokevirtual 151, 3) := by decide +kernel
theorem dX2_splitBucketOf_155 : decode cX2_splitBucketOf 155 = .ok (.aload_n 0, 1) := by decide +kernel
theorem dX2_splitBucketOf_156 : decode cX2_splitBucketOf 156 = .ok (.getfield 38, 3) := by decide +kernel
theorem dX2_splitBucketOf_159 : decode cX2_splitBucketOf 159 = .ok (.dup, 1) := by decide +kernel
theorem dX2_splitBucketOf_160 : decode cX2_splitBucketOf 160 = .ok (.getfield 118, 3) := by decide +kernel
theorem dX2_splitBucketOf_163 : decode cX2_splitBucketOf 163 = .ok (.iconst 1, 1) := by decide +kernel
theorem dX2_splitBucketOf_164 : decode cX2_splitBucketOf 164 = .ok (.iadd, 1) := by decide +kernel
theorem dX2_splitBucketOf_165 : decode cX2_splitBucketOf 165 = .ok (.putfield 118, 3) := by decide +kernel
theorem dX2_splitBucketOf_168 : decode cX2_splitBucketOf 168 = .ok (.return_, 1) := by decide +kernel
set_option maxRecDepth 20000 in
theorem ggX2_changeableBucketOf_X1_bucketOf : GoodIn wsX2_changeableBucketOf wsX1_bucketOf := goodIn_r _ [8, 9, 10, 11, 12, 7, 13, 14, 52, 53, 54, 55, 56] (by decide +kernel) (by decide +kernel)
set_option maxRecDepth 20000 in
theorem gX2_changeableBucketOf_X1_bucketOf : GoodIn wsX2_changeableBucketOf (wsV RX2 67 RX1 yX1_bucketOf wsX1_bucketOf) := goodIn_app (goodIn_of _ (by decide +kernel)) ggX2_changeableBucketOf_X1_bucketOf
set_option maxRecDepth 20000 in
theorem ggX2_changeableBucketOf_X0_changedCopy : GoodIn wsX2_changeableBucketOf wsX0_changedCopy := goodIn_r _ [19, 20, 21, 18, 22, 23, 24, 25, 26, 27, 28, 29, 30, 31, 32, 47, 48, 49, 50, 51] (by decide +kernel) (by decide +kernel)
set_option maxRecDepth 20000 in
theorem gX2_changeableBucketOf_X0_changedCopy : GoodIn wsX2_changeableBucketOf (wsV RX2 155 RX0 yX0_changedCopy wsX0_changedCopy) := goodIn_app (goodIn_of _ (by decide +kernel)) ggX2_changeableBucketOf_X0_changedCopy
set_option maxRecDepth 20000 in
theorem ggX2_changeableBucketOf_X1_enter : GoodIn wsX2_changeableBucketOf wsX1_enter := goodIn_r _ [36, 37, 9, 10, 11, 12, 7, 13, 14, 47, 48, 49, 50, 51, 52, 53, 54, 55, 56] (by decide +kernel) (by decide +kernel)
set_option maxRecDepth 20000 in
theorem gX2_changeableBucketOf_X1_enter : GoodIn wsX2_changeableBucketOf (wsV RX2 151 RX1 yX1_enter wsX1_enter) := goodIn_app (goodIn_of _ (by decide +kernel)) ggX2_changeableBucketOf_X1_enter
theorem dX2_changeableBucketOf_0 : decode cX2_changeableBucketOf 0 = .ok (.aload_n 0, 1) := by decide +kernel
theorem dX2_changeableBucketOf_1 : decode cX2_changeableBucketOf 1 = .ok (.getfield 38, 3) := by decide +kernel
theorem dX2_changeableBucketOf_4 : decode cX2_changeableBucketOf 4 = .ok (.iload_n 1, 1) := by decide +kernel
theorem dX2_changeableBucketOf_5 : decode cX2_changeableBucketOf 5 = .ok (.invokevirtual 67, 3) := by decide +kernel
theorem dX2_changeableBucketOf_8 : decode cX2_changeableBucketOf 8 = .ok (.astore_n 2, 1) := by decide +kernel
theorem dX2_changeableBucketOf_9 : decode cX2_changeableBucketOf 9 = .ok (.aload_n 2, 1) := by decide +kernel
theorem dX2_changeableBucketOf_10 : decode cX2_changeableBucketOf 10 = .ok (.getfield 30, 3) := by decide +kernel
theorem dX2_changeableBucketOf_13 : decode cX2_changeableBucketOf 13 = .ok (.ifCond .ne 5, 3) := by decide +kernel
theorem dX2_changeableBucketOf_16 : decode cX2_changeableBucketOf 16 = .ok (.aload_n 2, 1) := by decide +kernel
theorem dX2_changeableBucketOf_17 : decode cX2_changeableBucketOf 17 = .ok (.areturn, 1) := by decide +kernel
theorem dX2_changeableBucketOf_18 : decode cX2_changeableBucketOf 18 = .ok (.aload_n 2, 1) := by decide +kernel
theorem dX2_changeableBucketOf_19 : decode cX2_changeableBucketOf 19 = .ok (.aload_n 2, 1) := by decide +kernel
theorem dX2_changeableBucketOf_20 : decode cX2_changeableBucketOf 20 = .ok (.getfield 81, 3) := by decide +kernel
theorem dX2_changeableBucketOf_23 : decode cX2_changeableBucketOf 23 = .ok (.invokevirtual 155, 3) := by decide +kernel
theorem dX2_changeableBucketOf_26 : decode cX2_changeableBucketOf 26 = .ok (.astore_n 3, 1) := by decide +kernel
theorem dX2_changeableBucketOf_27 : decode cX2_changeableBucketOf 27 = .ok (.aload_n 0, 1) := by decide +kernel
theorem dX2_changeableBucketOf_28 : decode cX2_changeableBucketOf 28 = .ok (.getfield 38, 3) := by decide +kernel
theorem dX2_changeableBucketOf_31 : decode cX2_changeableBucketOf 31 = .ok (.aload_n 3, 1) := by decide +kernel
theorem dX2_changeableBucketOf_32 : decode cX2_changeableBucketOf 32 = .ok (.iload_n 1, 1) := by decide +kernel
theorem dX2_changeableBucketOf_33 : decode cX2_changeableBucketOf 33 = .ok (.invokevirtual 151, 3) := by decide +kernel
theorem dX2_changeableBucketOf_36 : decode cX2_changeableBucketOf 36 = .ok (.aload_n 3, 1) := by decide +kernel
theorem dX2_changeableBucketOf_37 : decode cX2_changeableBucketOf 37 = .ok (.areturn, 1) := by decide +kernel
set_option maxRecDepth 20000 in
theorem ggX2_mergeWhileEmpty_X1_bucketOf : GoodIn wsX2_mergeWhileEmpty wsX1_bucketOf := goodIn_r _ [9, 10, 11, 12, 13, 8, 14, 15, 53, 54, 55, 56, 57] (by decide +kernel) (by decide +kernel)
set_option maxRecDepth 20000 in
theorem gX2_mergeWhileEmpty_X1_bucketOf : GoodIn wsX2_mergeWhileEmpty (wsV RX2 67 RX1 yX1_bucketOf wsX1_bucketOf) := goodIn_app (goodIn_of _ (by decide +kernel)) ggX2_mergeWhileEmpty_X1_bucketOf
set_option maxRecDepth 20000 in
theorem ggX2_mergeWhileEmpty_X0_changedCopy : GoodIn wsX2_mergeWhileEmpty wsX0_changedCopy := goodIn_r _ [20, 21, 22, 19, 23, 24, 25, 26, 27, 28, 29, 30, 31, 32, 33, 48, 49, 50, 51, 52] (by decide +kernel) (by decide +kernel)
set_option maxRecDepth 20000 in
theorem gX2_mergeWhileEmpty_X0_changedCopy : GoodIn wsX2_mergeWhileEmpty (wsV RX2 155 RX0 yX0_changedCopy wsX0_changedCopy) := goodIn_app (goodIn_of _ (by decide +kernel)) ggX2_mergeWhileEmpty_X0_changedCopy
set_option maxRecDepth 20000 in
theorem ggX2_mergeWhileEmpty_X1_enter : GoodIn wsX2_mergeWhileEmpty wsX1_enter := goodIn_r _ [37, 38, 10, 11, 12, 13, 8, 14, 15, 48, 49, 50, 51, 52, 53, 54, 55, 56, 57] (by decide +kernel) (by decide +kernel)
set_option maxRecDepth 20000 in
theorem gX2_mergeWhileEmpty_X1_enter : GoodIn wsX2_mergeWhileEmpty (wsV RX2 151 RX1 yX1_enter wsX1_enter) := goodIn_app (goodIn_of _ (by decide +kernel)) ggX2_mergeWhileEmpty_X1_enter
theorem dX2_mergeWhileEmpty_0 : decode cX2_mergeWhileEmpty 0 = .ok (.aload_n 0, 1) := by decide +kernel
theorem dX2_mergeWhileEmpty_1 : decode cX2_mergeWhileEmpty 1 = .ok (.getfield 38, 3) := by decide +kernel
theorem dX2_mergeWhileEmpty_4 : decode cX2_mergeWhileEmpty 4 = .ok (.iload_n 1, 1) := by decide +kernel
theorem dX2_mergeWhileEmpty_5 : decode cX2_mergeWhileEmpty 5 = .ok (.invokevirtual 67, 3) := by decide +kernel
theorem dX2_mergeWhileEmpty_8 : decode cX2_mergeWhileEmpty 8 = .ok (.getfield 81, 3) := by decide +kernel
theorem dX2_mergeWhileEmpty_11 : decode cX2_mergeWhileEmpty 11 = .ok (.istore_n 2, 1) := by decide +kernel
theorem dX2_mergeWhileEmpty_12 : decode cX2_mergeWhileEmpty 12 = .ok (.iload_n 2, 1) := by decide +kernel
theorem dX2_mergeWhileEmpty_13 : decode cX2_mergeWhileEmpty 13 = .ok (.ifCond .le 80, 3) := by decide +kernel
theorem dX2_mergeWhileEmpty_16 : decode cX2_mergeWhileEmpty 16 = .ok (.aload_n 0, 1) := by decide +kernel
theorem dX2_mergeWhileEmpty_17 : decode cX2_mergeWhileEmpty 17 = .ok (.getfield 38, 3) := by decide +kernel
theorem dX2_mergeWhileEmpty_20 : decode cX2_mergeWhileEmpty 20 = .ok (.iload_n 1, 1) := by decide +kernel
theorem dX2_mergeWhileEmpty_21 : decode cX2_mergeWhileEmpty 21 = .ok (.invokevirtual 67, 3) := by decide +kernel
theorem dX2_mergeWhileEmpty_24 : decode cX2_mergeWhileEmpty 24 = .ok (.astore_n 3, 1) := by decide +kernel
theorem dX2_mergeWhileEmpty_25 : decode cX2_mergeWhileEmpty 25 = .ok (.aload_n 0, 1) := by decide +kernel
theorem dX2_mergeWhileEmpty_26 : decode cX2_mergeWhileEmpty 26 = .ok (.getfield 38, 3) := by decide +kernel
theorem dX2_mergeWhileEmpty_29 : decode cX2_mergeWhileEmpty 29 = .ok (.iload_n 1, 1) := by decide +kernel
theorem dX2_mergeWhileEmpty_30 : decode cX2_mergeWhileEmpty 30 = .ok (.iconst 1, 1) := by decide +kernel
theorem dX2_mergeWhileEmpty_31 : decode cX2_mergeWhileEmpty 31 = .ok (.iload_n 2, 1) := by decide +kernel
theorem dX2_mergeWhileEmpty_32 : decode cX2_mergeWhileEmpty 32 = .ok (.iconst 1, 1) := by decide +kernel
theorem dX2_mergeWhileEmpty_33 : decode cX2_mergeWhileEmpty 33 = .ok (.isub, 1) := by decide +kernel
theorem dX2_mergeWhileEmpty_34 : decode cX2_mergeWhileEmpty 34 = .ok (.ishl, 1) := by decide +kernel
theorem dX2_mergeWhileEmpty_35 : decode cX2_mergeWhileEmpty 35 = .ok (.ixor, 1) := by decide +kernel
theorem dX2_mergeWhileEmpty_36 : decode cX2_mergeWhileEmpty 36 = .ok (.invokevirtual 67, 3) := by decide +kernel
theorem dX2_mergeWhileEmpty_39 : decode cX2_mergeWhileEmpty 39 = .ok (.astore 4, 2) := by decide +kernel
theorem dX2_mergeWhileEmpty_41 : decode cX2_mergeWhileEmpty 41 = .ok (.aload_n 3, 1) := by decide +kernel
theorem dX2_mergeWhileEmpty_42 : decode cX2_mergeWhileEmpty 42 = .ok (.getfield 71, 3) := by decide +kernel
theorem dX2_mergeWhileEmpty_45 : decode cX2_mergeWhileEmpty 45 = .ok (.ifCond .gt 12, 3) := by decide +kernel
theorem dX2_mergeWhileEmpty_48 : decode cX2_mergeWhileEmpty 48 = .ok (.aload 4, 2) := by decide +kernel
theorem dX2_mergeWhileEmpty_50 : decode cX2_mergeWhileEmpty 50 = .ok (.getfield 81, 3) := by decide +kernel
theorem dX2_mergeWhileEmpty_53 : decode cX2_mergeWhileEmpty 53 = .ok (.iload_n 2, 1) := by decide +kernel
theorem dX2_mergeWhileEmpty_54 : decode cX2_mergeWhileEmpty 54 = .ok (.if_icmp .eq 4, 3) := by decide +kernel
theorem dX2_mergeWhileEmpty_57 : decode cX2_mergeWhileEmpty 57 = .ok (.return_, 1) := by decide +kernel
theorem dX2_mergeWhileEmpty_58 : decode cX2_mergeWhileEmpty 58 = .ok (.aload_n 0, 1) := by decide +kernel
theorem dX2_mergeWhileEmpty_59 : decode cX2_mergeWhileEmpty 59 = .ok (.getfield 38, 3) := by decide +kernel
theorem dX2_mergeWhileEmpty_62 : decode cX2_mergeWhileEmpty 62 = .ok (.aload 4, 2) := by decide +kernel
theorem dX2_mergeWhileEmpty_64 : decode cX2_mergeWhileEmpty 64 = .ok (.iload_n 2, 1) := by decide +kernel
theorem dX2_mergeWhileEmpty_65 : decode cX2_mergeWhileEmpty 65 = .ok (.iconst 1, 1) := by decide +kernel
theorem dX2_mergeWhileEmpty_66 : decode cX2_mergeWhileEmpty 66 = .ok (.isub, 1) := by decide +kernel
theorem dX2_mergeWhileEmpty_67 : decode cX2_mergeWhileEmpty 67 = .ok (.invokevirtual 155, 3) := by decide +kernel
theorem dX2_mergeWhileEmpty_70 : decode cX2_mergeWhileEmpty 70 = .ok (.iload_n 1, 1) := by decide +kernel
theorem dX2_mergeWhileEmpty_71 : decode cX2_mergeWhileEmpty 71 = .ok (.invokevirtual 151, 3) := by decide +kernel
theorem dX2_mergeWhileEmpty_74 : decode cX2_mergeWhileEmpty 74 = .ok (.aload_n 0, 1) := by decide +kernel
theorem dX2_mergeWhileEmpty_75 : decode cX2_mergeWhileEmpty 75 = .ok (.getfield 38, 3) := by decide +kernel
theorem dX2_mergeWhileEmpty_78 : decode cX2_mergeWhileEmpty 78 = .ok (.dup, 1) := by decide +kernel
theorem dX2_mergeWhileEmpty_79 : decode cX2_mergeWhileEmpty 79 = .ok (.getfield 118, 3) := by decide +kernel
theorem dX2_mergeWhileEmpty_82 : decode cX2_mergeWhileEmpty 82 = .ok (.iconst 1, 1) := by decide +kernel
theorem dX2_mergeWhileEmpty_83 : decode cX2_mergeWhileEmpty 83 = .ok (.isub, 1) := by decide +kernel
theorem dX2_mergeWhileEmpty_84 : decode cX2_mergeWhileEmpty 84 = .ok (.putfield 118, 3) := by decide +kernel
theorem dX2_mergeWhileEmpty_87 : decode cX2_mergeWhileEmpty 87 = .ok (.iinc 2 (-1), 3) := by decide +kernel
theorem dX2_mergeWhileEmpty_90 : decode cX2_mergeWhileEmpty 90 = .ok (.goto (-78), 3) := by decide +kernel
theorem dX2_mergeWhileEmpty_93 : decode cX2_mergeWhileEmpty 93 = .ok (.return_, 1) := by decide +kernel
set_option maxRecDepth 20000 in
theorem ggX2_writeChanges_X1_changedBuckets : GoodIn wsX2_writeChanges wsX1_changedBuckets := goodIn_r _ [11, 12, 13, 14, 15, 16, 17, 10, 18, 19, 78, 79, 80, 81, 82, 83, 84, 85, 86, 87] (by decide +kernel) (by decide +kernel)
set_option maxRecDepth 20000 in
theorem gX2_writeChanges_X1_changedBuckets : GoodIn wsX2_writeChanges (wsV RX2 158 RX1 yX1_changedBuckets wsX1_changedBuckets) := goodIn_app (goodIn_of _ (by decide +kernel)) ggX2_writeChanges_X1_changedBuckets
set_option maxRecDepth 20000 in
theorem ggX2_writeChanges_X2_blocksOfDirectory : GoodIn wsX2_writeChanges wsX2_blocksOfDirectory := goodIn_r _ [23] (by decide +kernel) (by decide +kernel)
set_option maxRecDepth 20000 in
theorem gX2_writeChanges_X2_blocksOfDirectory : GoodIn wsX2_writeChanges (va_wsS RX2 138 yX2_blocksOfDirectory wsX2_blocksOfDirectory) := goodIn_app (goodIn_of _ (by decide +kernel)) ggX2_writeChanges_X2_blocksOfDirectory
set_option maxRecDepth 20000 in
theorem ggX2_writeChanges_X2_freeBlocks : GoodIn wsX2_writeChanges wsX2_freeBlocks := goodIn_r _ [27, 6, 5, 28, 29, 2, 20, 21, 22, 23, 69, 70, 71, 72, 73, 74, 75, 76, 77, 78, 79, 80, 81, 82] (by decide +kernel) (by decide +kernel)
set_option maxRecDepth 20000 in
theorem gX2_writeChanges_X2_freeBlocks : GoodIn wsX2_writeChanges (wsV RX2 134 RX2 yX2_freeBlocks wsX2_freeBlocks) := goodIn_app (goodIn_of _ (by decide +kernel)) ggX2_writeChanges_X2_freeBlocks
set_option maxRecDepth 20000 in
theorem ggX2_writeChanges_X2_takeSynced : GoodIn wsX2_writeChanges wsX2_takeSynced := goodIn_r _ [33, 28, 34, 6, 5, 35, 36, 2, 37, 38, 16, 17, 10, 18, 19, 20, 21, 22, 23, 69, 70, 71, 72, 73, 74, 75, 76, 77, 78, 79, 80, 81, 82, 83, 84, 85, 86, 87] (by decide +kernel) (by decide +kernel)
set_option maxRecDepth 20000 in
theorem gX2_writeChanges_X2_takeSynced : GoodIn wsX2_writeChanges (wsV RX2 161 RX2 yX2_takeSynced wsX2_takeSynced) := goodIn_app (goodIn_of _ (by decide +kernel)) ggX2_writeChanges_X2_takeSynced
set_option maxRecDepth 20000 in
theorem ggX2_writeChanges_X2_writeBuckets : GoodIn wsX2_writeChanges wsX2_writeBuckets := goodIn_r _ [42, 1, 35, 36, 38, 16, 17, 10, 18, 19, 43, 44, 45, 22, 46, 28, 34, 47, 48, 49, 50, 51, 52, 53, 54, 55, 56, 57, 69, 70, 71, 72, 73, 74, 75, 76, 77, 78, 79, 80, 81, 82, 83, 84, 85, 86, 87] (by decide +kernel) (by decide +kernel)
set_option maxRecDepth 20000 in
theorem gX2_writeChanges_X2_writeBuckets : GoodIn wsX2_writeChanges (wsV RX2 164 RX2 yX2_writeBuckets wsX2_writeBuckets) := goodIn_app (goodIn_of _ (by decide +kernel)) ggX2_writeChanges_X2_writeBuckets
set_option maxRecDepth 20000 in
theorem ggX2_writeChanges_X2_writeDirectory : GoodIn wsX2_writeChanges wsX2_writeDirectory := goodIn_r _ [61, 1, 2, 37, 20, 21, 22, 23, 43, 44, 45, 46, 28, 34, 47, 48, 49, 50, 51, 52, 53, 54, 55, 56, 57, 69, 70, 71, 72, 73, 74, 75, 76, 77, 78, 79, 80, 81, 82] (by decide +kernel) (by decide +kernel)
set_option maxRecDepth 20000 in
theorem gX2_writeChanges_X2_writeDirectory : GoodIn wsX2_writeChanges (wsV RX2 167 RX2 yX2_writeDirectory wsX2_writeDirectory) := goodIn_app (goodIn_of _ (by decide +kernel)) ggX2_writeChanges_X2_writeDirectory
set_option maxRecDepth 20000 in
theorem ggX2_writeChanges_X2_writeBlock : GoodIn wsX2_writeChanges wsX2_writeBlock := goodIn_r _ [50, 51, 52, 53, 54, 55, 56, 57, 69, 70, 71, 72, 73, 74, 75, 76, 77] (by decide +kernel) (by decide +kernel)
set_option maxRecDepth 20000 in
theorem gX2_writeChanges_X2_writeBlock : GoodIn wsX2_writeChanges (wsV RX2 170 RX2 yX2_writeBlock wsX2_writeBlock) := goodIn_app (goodIn_of _ (by decide +kernel)) ggX2_writeChanges_X2_writeBlock
set_option maxRecDepth 20000 in
theorem ggX2_writeChanges_X1_copyFrom : GoodIn wsX2_writeChanges wsX1_copyFrom := goodIn_r _ [65, 19, 66, 67, 12, 68, 15, 16, 17, 10, 18, 78, 79, 80, 81, 82] (by decide +kernel) (by decide +kernel)
set_option maxRecDepth 20000 in
theorem gX2_writeChanges_X1_copyFrom : GoodIn wsX2_writeChanges (wsV RX2 127 RX1 yX1_copyFrom wsX1_copyFrom) := goodIn_app (goodIn_of _ (by decide +kernel)) ggX2_writeChanges_X1_copyFrom
theorem dX2_writeChanges_0 : decode cX2_writeChanges 0 = .ok (.aload_n 0, 1) := by decide +kernel
theorem dX2_writeChanges_1 : decode cX2_writeChanges 1 = .ok (.getfield 38, 3) := by decide +kernel
theorem dX2_writeChanges_4 : decode cX2_writeChanges 4 = .ok (.invokevirtual 158, 3) := by decide +kernel
theorem dX2_writeChanges_7 : decode cX2_writeChanges 7 = .ok (.istore_n 1, 1) := by decide +kernel
theorem dX2_writeChanges_8 : decode cX2_writeChanges 8 = .ok (.iload_n 1, 1) := by decide +kernel
theorem dX2_writeChanges_9 : decode cX2_writeChanges 9 = .ok (.ifCond .ne 5, 3) := by decide +kernel
theorem dX2_writeChanges_12 : decode cX2_writeChanges 12 = .ok (.iconst 0, 1) := by decide +kernel
theorem dX2_writeChanges_13 : decode cX2_writeChanges 13 = .ok (.ireturn, 1) := by decide +kernel
theorem dX2_writeChanges_14 : decode cX2_writeChanges 14 = .ok (.iload_n 1, 1) := by decide +kernel
theorem dX2_writeChanges_15 : decode cX2_writeChanges 15 = .ok (.aload_n 0, 1) := by decide +kernel
theorem dX2_writeChanges_16 : decode cX2_writeChanges 16 = .ok (.getfield 38, 3) := by decide +kernel
theorem dX2_writeChanges_19 : decode cX2_writeChanges 19 = .ok (.getfield 115, 3) := by decide +kernel
theorem dX2_writeChanges_22 : decode cX2_writeChanges 22 = .ok (.invokestatic 138, 3) := by decide +kernel
theorem dX2_writeChanges_25 : decode cX2_writeChanges 25 = .ok (.iadd, 1) := by decide +kernel
theorem dX2_writeChanges_26 : decode cX2_writeChanges 26 = .ok (.aload_n 0, 1) := by decide +kernel
theorem dX2_writeChanges_27 : decode cX2_writeChanges 27 = .ok (.invokevirtual 134, 3) := by decide +kernel
theorem dX2_writeChanges_30 : decode cX2_writeChanges 30 = .ok (.if_icmp .le 6, 3) := by decide +kernel
theorem dX2_writeChanges_33 : decode cX2_writeChanges 33 = .ok (.ldc 88, 2) := by decide +kernel
theorem dX2_writeChanges_35 : decode cX2_writeChanges 35 = .ok (.ireturn, 1) := by decide +kernel
theorem dX2_writeChanges_36 : decode cX2_writeChanges 36 = .ok (.aload_n 0, 1) := by decide +kernel
theorem dX2_writeChanges_37 : decode cX2_writeChanges 37 = .ok (.invokevirtual 161, 3) := by decide +kernel
theorem dX2_writeChanges_40 : decode cX2_writeChanges 40 = .ok (.aload_n 0, 1) := by decide +kernel
theorem dX2_writeChanges_41 : decode cX2_writeChanges 41 = .ok (.invokevirtual 164, 3) := by decide +kernel
theorem dX2_writeChanges_44 : decode cX2_writeChanges 44 = .ok (.aload_n 0, 1) := by decide +kernel
theorem dX2_writeChanges_45 : decode cX2_writeChanges 45 = .ok (.invokevirtual 167, 3) := by decide +kernel
theorem dX2_writeChanges_48 : decode cX2_writeChanges 48 = .ok (.aload_n 0, 1) := by decide +kernel
theorem dX2_writeChanges_49 : decode cX2_writeChanges 49 = .ok (.invokevirtual 170, 3) := by decide +kernel
theorem dX2_writeChanges_52 : decode cX2_writeChanges 52 = .ok (.ifCond .ne 6, 3) := by decide +kernel
theorem dX2_writeChanges_55 : decode cX2_writeChanges 55 = .ok (.ldc 54, 2) := by decide +kernel
theorem dX2_writeChanges_57 : decode cX2_writeChanges 57 = .ok (.ireturn, 1) := by decide +kernel
theorem dX2_writeChanges_58 : decode cX2_writeChanges 58 = .ok (.aload_n 0, 1) := by decide +kernel
theorem dX2_writeChanges_59 : decode cX2_writeChanges 59 = .ok (.iconst 1, 1) := by decide +kernel
theorem dX2_writeChanges_60 : decode cX2_writeChanges 60 = .ok (.aload_n 0, 1) := by decide +kernel
theorem dX2_writeChanges_61 : decode cX2_writeChanges 61 = .ok (.getfield 124, 3) := by decide +kernel
theorem dX2_writeChanges_64 : decode cX2_writeChanges 64 = .ok (.isub, 1) := by decide +kernel
theorem dX2_writeChanges_65 : decode cX2_writeChanges 65 = .ok (.putfield 124, 3) := by decide +kernel
theorem dX2_writeChanges_68 : decode cX2_writeChanges 68 = .ok (.aload_n 0, 1) := by decide +kernel
theorem dX2_writeChanges_69 : decode cX2_writeChanges 69 = .ok (.getfield 42, 3) := by decide +kernel
theorem dX2_writeChanges_72 : decode cX2_writeChanges 72 = .ok (.aload_n 0, 1) := by decide +kernel
theorem dX2_writeChanges_73 : decode cX2_writeChanges 73 = .ok (.getfield 124, 3) := by decide +kernel
theorem dX2_writeChanges_76 : decode cX2_writeChanges 76 = .ok (.aaload, 1) := by decide +kernel
theorem dX2_writeChanges_77 : decode cX2_writeChanges 77 = .ok (.aload_n 0, 1) := by decide +kernel
theorem dX2_writeChanges_78 : decode cX2_writeChanges 78 = .ok (.getfield 38, 3) := by decide +kernel
theorem dX2_writeChanges_81 : decode cX2_writeChanges 81 = .ok (.invokevirtual 127, 3) := by decide +kernel
theorem dX2_writeChanges_84 : decode cX2_writeChanges 84 = .ok (.iconst 0, 1) := by decide +kernel
theorem dX2_writeChanges_85 : decode cX2_writeChanges 85 = .ok (.ireturn, 1) := by decide +kernel
set_option maxRecDepth 20000 in
theorem ggX2_takeSynced_X1_entries : GoodIn wsX2_takeSynced wsX1_entries := goodIn_r _ [13, 14, 28, 29, 30, 31, 32] (by decide +kernel) (by decide +kernel)
set_option maxRecDepth 20000 in
theorem gX2_takeSynced_X1_entries : GoodIn wsX2_takeSynced (wsV RX2 174 RX1 yX1_entries wsX1_entries) := goodIn_app (goodIn_of _ (by decide +kernel)) ggX2_takeSynced_X1_entries
set_option maxRecDepth 20000 in
theorem ggX2_takeSynced_X2_blocksOfDirectory : GoodIn wsX2_takeSynced wsX2_blocksOfDirectory := goodIn_r _ [18] (by decide +kernel) (by decide +kernel)
set_option maxRecDepth 20000 in
theorem gX2_takeSynced_X2_blocksOfDirectory : GoodIn wsX2_takeSynced (va_wsS RX2 138 yX2_blocksOfDirectory wsX2_blocksOfDirectory) := goodIn_app (goodIn_of _ (by decide +kernel)) ggX2_takeSynced_X2_blocksOfDirectory
theorem dX2_takeSynced_0 : decode cX2_takeSynced 0 = .ok (.iconst 0, 1) := by decide +kernel
theorem dX2_takeSynced_1 : decode cX2_takeSynced 1 = .ok (.istore_n 1, 1) := by decide +kernel
theorem dX2_takeSynced_2 : decode cX2_takeSynced 2 = .ok (.iload_n 1, 1) := by decide +kernel
theorem dX2_takeSynced_3 : decode cX2_takeSynced 3 = .ok (.aload_n 0, 1) := by decide +kernel
theorem dX2_takeSynced_4 : decode cX2_takeSynced 4 = .ok (.getfield 18, 3) := by decide +kernel
theorem dX2_takeSynced_7 : decode cX2_takeSynced 7 = .ok (.if_icmp .ge 25, 3) := by decide +kernel
theorem dX2_takeSynced_10 : decode cX2_takeSynced 10 = .ok (.aload_n 0, 1) := by decide +kernel
theorem dX2_takeSynced_11 : decode cX2_takeSynced 11 = .ok (.getfield 46, 3) := by decide +kernel
theorem dX2_takeSynced_14 : decode cX2_takeSynced 14 = .ok (.iload_n 1, 1) := by decide +kernel
theorem dX2_takeSynced_15 : decode cX2_takeSynced 15 = .ok (.iload_n 1, 1) := by decide +kernel
theorem dX2_takeSynced_16 : decode cX2_takeSynced 16 = .ok (.iconst 2, 1) := by decide +kernel
theorem dX2_takeSynced_17 : decode cX2_takeSynced 17 = .ok (.if_icmp .ge 7, 3) := by decide +kernel
theorem dX2_takeSynced_20 : decode cX2_takeSynced 20 = .ok (.iconst 1, 1) := by decide +kernel
theorem dX2_takeSynced_21 : decode cX2_takeSynced 21 = .ok (.goto 4, 3) := by decide +kernel
theorem dX2_takeSynced_24 : decode cX2_takeSynced 24 = .ok (.iconst 0, 1) := by decide +kernel
theorem dX2_takeSynced_25 : decode cX2_takeSynced 25 = .ok (.bastore, 1) := by decide +kernel
theorem dX2_takeSynced_26 : decode cX2_takeSynced 26 = .ok (.iinc 1 1, 3) := by decide +kernel
theorem dX2_takeSynced_29 : decode cX2_takeSynced 29 = .ok (.goto (-27), 3) := by decide +kernel
theorem dX2_takeSynced_32 : decode cX2_takeSynced 32 = .ok (.aload_n 0, 1) := by decide +kernel
theorem dX2_takeSynced_33 : decode cX2_takeSynced 33 = .ok (.getfield 42, 3) := by decide +kernel
theorem dX2_takeSynced_36 : decode cX2_takeSynced 36 = .ok (.aload_n 0, 1) := by decide +kernel
theorem dX2_takeSynced_37 : decode cX2_takeSynced 37 = .ok (.getfield 124, 3) := by decide +kernel
theorem dX2_takeSynced_40 : decode cX2_takeSynced 40 = .ok (.aaload, 1) := by decide +kernel
theorem dX2_takeSynced_41 : decode cX2_takeSynced 41 = .ok (.astore_n 1, 1) := by decide +kernel
theorem dX2_takeSynced_42 : decode cX2_takeSynced 42 = .ok (.iconst 0, 1) := by decide +kernel
theorem dX2_takeSynced_43 : decode cX2_takeSynced 43 = .ok (.istore_n 2, 1) := by decide +kernel
theorem dX2_takeSynced_44 : decode cX2_takeSynced 44 = .ok (.iload_n 2, 1) := by decide +kernel
theorem dX2_takeSynced_45 : decode cX2_takeSynced 45 = .ok (.aload_n 1, 1) := by decide +kernel
theorem dX2_takeSynced_46 : decode cX2_takeSynced 46 = .ok (.invokevirtual 174, 3) := by decide +kernel
theorem dX2_takeSynced_49 : decode cX2_takeSynced 49 = .ok (.if_icmp .ge 24, 3) := by decide +kernel
theorem dX2_takeSynced_52 : decode cX2_takeSynced 52 = .ok (.aload_n 0, 1) := by decide +kernel
theorem dX2_takeSynced_53 : decode cX2_takeSynced 53 = .ok (.getfield 46, 3) := by decide +kernel
theorem dX2_takeSynced_56 : decode cX2_takeSynced 56 = .ok (.aload_n 1, 1) := by decide +kernel
theorem dX2_takeSynced_57 : decode cX2_takeSynced 57 = .ok (.getfield 177, 3) := by decide +kernel
theorem dX2_takeSynced_60 : decode cX2_takeSynced 60 = .ok (.iload_n 2, 1) := by decide +kernel
theorem dX2_takeSynced_61 : decode cX2_takeSynced 61 = .ok (.aaload, 1) := by decide +kernel
theorem dX2_takeSynced_62 : decode cX2_takeSynced 62 = .ok (.getfield 30, 3) := by decide +kernel
theorem dX2_takeSynced_65 : decode cX2_takeSynced 65 = .ok (.iconst 1, 1) := by decide +kernel
theorem dX2_takeSynced_66 : decode cX2_takeSynced 66 = .ok (.bastore, 1) := by decide +kernel
theorem dX2_takeSynced_67 : decode cX2_takeSynced 67 = .ok (.iinc 2 1, 3) := by decide +kernel
theorem dX2_takeSynced_70 : decode cX2_takeSynced 70 = .ok (.goto (-26), 3) := by decide +kernel
theorem dX2_takeSynced_73 : decode cX2_takeSynced 73 = .ok (.iconst 0, 1) := by decide +kernel
theorem dX2_takeSynced_74 : decode cX2_takeSynced 74 = .ok (.istore_n 2, 1) := by decide +kernel
theorem dX2_takeSynced_75 : decode cX2_takeSynced 75 = .ok (.iload_n 2, 1) := by decide +kernel
theorem dX2_takeSynced_76 : decode cX2_takeSynced 76 = .ok (.aload_n 1, 1) := by decide +kernel
theorem dX2_takeSynced_77 : decode cX2_takeSynced 77 = .ok (.getfield 115, 3) := by decide +kernel
theorem dX2_takeSynced_80 : decode cX2_takeSynced 80 = .ok (.invokestatic 138, 3) := by decide +kernel
theorem dX2_takeSynced_83 : decode cX2_takeSynced 83 = .ok (.if_icmp .ge 21, 3) := by decide +kernel
theorem dX2_takeSynced_86 : decode cX2_takeSynced 86 = .ok (.aload_n 0, 1) := by decide +kernel
theorem dX2_takeSynced_87 : decode cX2_takeSynced 87 = .ok (.getfield 46, 3) := by decide +kernel
theorem dX2_takeSynced_90 : decode cX2_takeSynced 90 = .ok (.aload_n 1, 1) := by decide +kernel
theorem dX2_takeSynced_91 : decode cX2_takeSynced 91 = .ok (.getfield 181, 3) := by decide +kernel
theorem dX2_takeSynced_94 : decode cX2_takeSynced 94 = .ok (.iload_n 2, 1) := by decide +kernel
theorem dX2_takeSynced_95 : decode cX2_takeSynced 95 = .ok (.iaload, 1) := by decide +kernel
theorem dX2_takeSynced_96 : decode cX2_takeSynced 96 = .ok (.iconst 1, 1) := by decide +kernel
theorem dX2_takeSynced_97 : decode cX2_takeSynced 97 = .ok (.bastore, 1) := by decide +kernel
theorem dX2_takeSynced_98 : decode cX2_takeSynced 98 = .ok (.iinc 2 1, 3) := by decide +kernel
theorem dX2_takeSynced_101 : decode cX2_takeSynced 101 = .ok (.goto (-26), 3) := by decide +kernel
theorem dX2_takeSynced_104 : decode cX2_takeSynced 104 = .ok (.return_, 1) := by decide +kernel
set_option maxRecDepth 20000 in
theorem ggX2_writeBuckets_X1_entries : GoodIn wsX2_writeBuckets wsX1_entries := goodIn_r _ [8, 9, 37, 38, 39, 40, 41] (by decide +kernel) (by decide +kernel)
set_option maxRecDepth 20000 in
theorem gX2_writeBuckets_X1_entries : GoodIn wsX2_writeBuckets (wsV RX2 174 RX1 yX1_entries wsX1_entries) := goodIn_app (goodIn_of _ (by decide +kernel)) ggX2_writeBuckets_X1_entries
set_option maxRecDepth 20000 in
theorem ggX2_writeBuckets_X2_takeLeastFree : GoodIn wsX2_writeBuckets wsX2_takeLeastFree := goodIn_r _ [14, 15, 16, 28, 29, 30, 31, 32, 33, 34, 35, 36] (by decide +kernel) (by decide +kernel)
set_option maxRecDepth 20000 in
theorem gX2_writeBuckets_X2_takeLeastFree : GoodIn wsX2_writeBuckets (wsV RX2 184 RX2 yX2_takeLeastFree wsX2_takeLeastFree) := goodIn_app (goodIn_of _ (by decide +kernel)) ggX2_writeBuckets_X2_takeLeastFree
set_option maxRecDepth 20000 in
theorem ggX2_writeBuckets_X2_writeBlock : GoodIn wsX2_writeBuckets wsX2_writeBlock := goodIn_r _ [20, 21, 22, 23, 24, 25, 26, 27, 28, 29, 30, 31, 32, 33, 34, 35, 36] (by decide +kernel) (by decide +kernel)
set_option maxRecDepth 20000 in
theorem gX2_writeBuckets_X2_writeBlock : GoodIn wsX2_writeBuckets (wsV RX2 170 RX2 yX2_writeBlock wsX2_writeBlock) := goodIn_app (goodIn_of _ (by decide +kernel)) ggX2_writeBuckets_X2_writeBlock
theorem dX2_writeBuckets_0 : decode cX2_writeBuckets 0 = .ok (.iconst 0, 1) := by decide +kernel
theorem dX2_writeBuckets_1 : decode cX2_writeBuckets 1 = .ok (.istore_n 1, 1) := by decide +kernel
theorem dX2_writeBuckets_2 : decode cX2_writeBuckets 2 = .ok (.iload_n 1, 1) := by decide +kernel
theorem dX2_writeBuckets_3 : decode cX2_writeBuckets 3 = .ok (.aload_n 0, 1) := by decide +kernel
theorem dX2_writeBuckets_4 : decode cX2_writeBuckets 4 = .ok (.getfield 38, 3) := by decide +kernel
theorem dX2_writeBuckets_7 : decode cX2_writeBuckets 7 = .ok (.invokevirtual 174, 3) := by decide +kernel
theorem dX2_writeBuckets_10 : decode cX2_writeBuckets 10 = .ok (.if_icmp .ge 39, 3) := by decide +kernel
theorem dX2_writeBuckets_13 : decode cX2_writeBuckets 13 = .ok (.aload_n 0, 1) := by decide +kernel
theorem dX2_writeBuckets_14 : decode cX2_writeBuckets 14 = .ok (.getfield 38, 3) := by decide +kernel
theorem dX2_writeBuckets_17 : decode cX2_writeBuckets 17 = .ok (.getfield 177, 3) := by decide +kernel
theorem dX2_writeBuckets_20 : decode cX2_writeBuckets 20 = .ok (.iload_n 1, 1) := by decide +kernel
theorem dX2_writeBuckets_21 : decode cX2_writeBuckets 21 = .ok (.aaload, 1) := by decide +kernel
theorem dX2_writeBuckets_22 : decode cX2_writeBuckets 22 = .ok (.astore_n 2, 1) := by decide +kernel
theorem dX2_writeBuckets_23 : decode cX2_writeBuckets 23 = .ok (.aload_n 2, 1) := by decide +kernel
theorem dX2_writeBuckets_24 : decode cX2_writeBuckets 24 = .ok (.getfield 30, 3) := by decide +kernel
theorem dX2_writeBuckets_27 : decode cX2_writeBuckets 27 = .ok (.ifCond .ne 16, 3) := by decide +kernel
theorem dX2_writeBuckets_30 : decode cX2_writeBuckets 30 = .ok (.aload_n 2, 1) := by decide +kernel
theorem dX2_writeBuckets_31 : decode cX2_writeBuckets 31 = .ok (.aload_n 0, 1) := by decide +kernel
theorem dX2_writeBuckets_32 : decode cX2_writeBuckets 32 = .ok (.invokevirtual 184, 3) := by decide +kernel
theorem dX2_writeBuckets_35 : decode cX2_writeBuckets 35 = .ok (.putfield 30, 3) := by decide +kernel
theorem dX2_writeBuckets_38 : decode cX2_writeBuckets 38 = .ok (.aload_n 0, 1) := by decide +kernel
theorem dX2_writeBuckets_39 : decode cX2_writeBuckets 39 = .ok (.invokevirtual 170, 3) := by decide +kernel
theorem dX2_writeBuckets_42 : decode cX2_writeBuckets 42 = .ok (.pop, 1) := by decide +kernel
theorem dX2_writeBuckets_43 : decode cX2_writeBuckets 43 = .ok (.iinc 1 1, 3) := by decide +kernel
theorem dX2_writeBuckets_46 : decode cX2_writeBuckets 46 = .ok (.goto (-44), 3) := by decide +kernel
theorem dX2_writeBuckets_49 : decode cX2_writeBuckets 49 = .ok (.return_, 1) := by decide +kernel
set_option maxRecDepth 20000 in
theorem ggX2_writeDirectory_X2_blocksOfDirectory : GoodIn wsX2_writeDirectory wsX2_blocksOfDirectory := goodIn_r _ [7] (by decide +kernel) (by decide +kernel)
set_option maxRecDepth 20000 in
theorem gX2_writeDirectory_X2_blocksOfDirectory : GoodIn wsX2_writeDirectory (va_wsS RX2 138 yX2_blocksOfDirectory wsX2_blocksOfDirectory) := goodIn_app (goodIn_of _ (by decide +kernel)) ggX2_writeDirectory_X2_blocksOfDirectory
set_option maxRecDepth 20000 in
theorem ggX2_writeDirectory_X2_takeLeastFree : GoodIn wsX2_writeDirectory wsX2_takeLeastFree := goodIn_r _ [11, 12, 13, 25, 26, 27, 28, 29, 30, 31, 32, 33] (by decide +kernel) (by decide +kernel)
set_option maxRecDepth 20000 in
theorem gX2_writeDirectory_X2_takeLeastFree : GoodIn wsX2_writeDirectory (wsV RX2 184 RX2 yX2_takeLeastFree wsX2_takeLeastFree) := goodIn_app (goodIn_of _ (by decide +kernel)) ggX2_writeDirectory_X2_takeLeastFree
set_option maxRecDepth 20000 in
theorem ggX2_writeDirectory_X2_writeBlock : GoodIn wsX2_writeDirectory wsX2_writeBlock := goodIn_r _ [17, 18, 19, 20, 21, 22, 23, 24, 25, 26, 27, 28, 29, 30, 31, 32, 33] (by decide +kernel) (by decide +kernel)
set_option maxRecDepth 20000 in
theorem gX2_writeDirectory_X2_writeBlock : GoodIn wsX2_writeDirectory (wsV RX2 170 RX2 yX2_writeBlock wsX2_writeBlock) := goodIn_app (goodIn_of _ (by decide +kernel)) ggX2_writeDirectory_X2_writeBlock
theorem dX2_writeDirectory_0 : decode cX2_writeDirectory 0 = .ok (.iconst 0, 1) := by decide +kernel
theorem dX2_writeDirectory_1 : decode cX2_writeDirectory 1 = .ok (.istore_n 1, 1) := by decide +kernel
theorem dX2_writeDirectory_2 : decode cX2_writeDirectory 2 = .ok (.iload_n 1, 1) := by decide +kernel
theorem dX2_writeDirectory_3 : decode cX2_writeDirectory 3 = .ok (.aload_n 0, 1) := by decide +kernel
theorem dX2_writeDirectory_4 : decode cX2_writeDirectory 4 = .ok (.getfield 38, 3) := by decide +kernel
theorem dX2_writeDirectory_7 : decode cX2_writeDirectory 7 = .ok (.getfield 115, 3) := by decide +kernel
theorem dX2_writeDirectory_10 : decode cX2_writeDirectory 10 = .ok (.invokestatic 138, 3) := by decide +kernel
theorem dX2_writeDirectory_13 : decode cX2_writeDirectory 13 = .ok (.if_icmp .ge 27, 3) := by decide +kernel
theorem dX2_writeDirectory_16 : decode cX2_writeDirectory 16 = .ok (.aload_n 0, 1) := by decide +kernel
theorem dX2_writeDirectory_17 : decode cX2_writeDirectory 17 = .ok (.getfield 38, 3) := by decide +kernel
theorem dX2_writeDirectory_20 : decode cX2_writeDirectory 20 = .ok (.getfield 181, 3) := by decide +kernel
theorem dX2_writeDirectory_23 : decode cX2_writeDirectory 23 = .ok (.iload_n 1, 1) := by decide +kernel
theorem dX2_writeDirectory_24 : decode cX2_writeDirectory 24 = .ok (.aload_n 0, 1) := by decide +kernel
theorem dX2_writeDirectory_25 : decode cX2_writeDirectory 25 = .ok (.invokevirtual 184, 3) := by decide +kernel
theorem dX2_writeDirectory_28 : decode cX2_writeDirectory 28 = .ok (.iastore, 1) := by decide +kernel
theorem dX2_writeDirectory_29 : decode cX2_writeDirectory 29 = .ok (.aload_n 0, 1) := by decide +kernel
theorem dX2_writeDirectory_30 : decode cX2_writeDirectory 30 = .ok (.invokevirtual 170, 3) := by decide +kernel
theorem dX2_writeDirectory_33 : decode cX2_writeDirectory 33 = .ok (.pop, 1) := by decide +kernel
theorem dX2_writeDirectory_34 : decode cX2_writeDirectory 34 = .ok (.iinc 1 1, 3) := by decide +kernel
theorem dX2_writeDirectory_37 : decode cX2_writeDirectory 37 = .ok (.goto (-35), 3) := by decide +kernel
theorem dX2_writeDirectory_40 : decode cX2_writeDirectory 40 = .ok (.return_, 1) := by decide +kernel
theorem dX2_takeLeastFree_0 : decode cX2_takeLeastFree 0 = .ok (.iconst 2, 1) := by decide +kernel
theorem dX2_takeLeastFree_1 : decode cX2_takeLeastFree 1 = .ok (.istore_n 1, 1) := by decide +kernel
theorem dX2_takeLeastFree_2 : decode cX2_takeLeastFree 2 = .ok (.iload_n 1, 1) := by decide +kernel
theorem dX2_takeLeastFree_3 : decode cX2_takeLeastFree 3 = .ok (.aload_n 0, 1) := by decide +kernel
theorem dX2_takeLeastFree_4 : decode cX2_takeLeastFree 4 = .ok (.getfield 18, 3) := by decide +kernel
theorem dX2_takeLeastFree_7 : decode cX2_takeLeastFree 7 = .ok (.iconst 1, 1) := by decide +kernel
theorem dX2_takeLeastFree_8 : decode cX2_takeLeastFree 8 = .ok (.isub, 1) := by decide +kernel
theorem dX2_takeLeastFree_9 : decode cX2_takeLeastFree 9 = .ok (.if_icmp .ge 18, 3) := by decide +kernel
theorem dX2_takeLeastFree_12 : decode cX2_takeLeastFree 12 = .ok (.aload_n 0, 1) := by decide +kernel
theorem dX2_takeLeastFree_13 : decode cX2_takeLeastFree 13 = .ok (.getfield 46, 3) := by decide +kernel
theorem dX2_takeLeastFree_16 : decode cX2_takeLeastFree 16 = .ok (.iload_n 1, 1) := by decide +kernel
theorem dX2_takeLeastFree_17 : decode cX2_takeLeastFree 17 = .ok (.baload, 1) := by decide +kernel
theorem dX2_takeLeastFree_18 : decode cX2_takeLeastFree 18 = .ok (.ifCond .eq 9, 3) := by decide +kernel
theorem dX2_takeLeastFree_21 : decode cX2_takeLeastFree 21 = .ok (.iinc 1 1, 3) := by decide +kernel
theorem dX2_takeLeastFree_24 : decode cX2_takeLeastFree 24 = .ok (.goto (-22), 3) := by decide +kernel
theorem dX2_takeLeastFree_27 : decode cX2_takeLeastFree 27 = .ok (.aload_n 0, 1) := by decide +kernel
theorem dX2_takeLeastFree_28 : decode cX2_takeLeastFree 28 = .ok (.getfield 46, 3) := by decide +kernel
theorem dX2_takeLeastFree_31 : decode cX2_takeLeastFree 31 = .ok (.iload_n 1, 1) := by decide +kernel
theorem dX2_takeLeastFree_32 : decode cX2_takeLeastFree 32 = .ok (.iconst 1, 1) := by decide +kernel
theorem dX2_takeLeastFree_33 : decode cX2_takeLeastFree 33 = .ok (.bastore, 1) := by decide +kernel
theorem dX2_takeLeastFree_34 : decode cX2_takeLeastFree 34 = .ok (.iload_n 1, 1) := by decide +kernel
theorem dX2_takeLeastFree_35 : decode cX2_takeLeastFree 35 = .ok (.ireturn, 1) := by decide +kernel
theorem dX2_writeBlock_0 : decode cX2_writeBlock 0 = .ok (.aload_n 0, 1) := by decide +kernel
theorem dX2_writeBlock_1 : decode cX2_writeBlock 1 = .ok (.getfield 121, 3) := by decide +kernel
theorem dX2_writeBlock_4 : decode cX2_writeBlock 4 = .ok (.iconst 1, 1) := by decide +kernel
theorem dX2_writeBlock_5 : decode cX2_writeBlock 5 = .ok (.if_icmp .ne 8, 3) := by decide +kernel
theorem dX2_writeBlock_8 : decode cX2_writeBlock 8 = .ok (.aload_n 0, 1) := by decide +kernel
theorem dX2_writeBlock_9 : decode cX2_writeBlock 9 = .ok (.iconst 1, 1) := by decide +kernel
theorem dX2_writeBlock_10 : decode cX2_writeBlock 10 = .ok (.putfield 50, 3) := by decide +kernel
theorem dX2_writeBlock_13 : decode cX2_writeBlock 13 = .ok (.aload_n 0, 1) := by decide +kernel
theorem dX2_writeBlock_14 : decode cX2_writeBlock 14 = .ok (.iconst 0, 1) := by decide +kernel
theorem dX2_writeBlock_15 : decode cX2_writeBlock 15 = .ok (.aload_n 0, 1) := by decide +kernel
theorem dX2_writeBlock_16 : decode cX2_writeBlock 16 = .ok (.getfield 121, 3) := by decide +kernel
theorem dX2_writeBlock_19 : decode cX2_writeBlock 19 = .ok (.iconst 1, 1) := by decide +kernel
theorem dX2_writeBlock_20 : decode cX2_writeBlock 20 = .ok (.isub, 1) := by decide +kernel
theorem dX2_writeBlock_21 : decode cX2_writeBlock 21 = .ok (.invokestatic 15, 3) := by decide +kernel
theorem dX2_writeBlock_24 : decode cX2_writeBlock 24 = .ok (.putfield 121, 3) := by decide +kernel
theorem dX2_writeBlock_27 : decode cX2_writeBlock 27 = .ok (.aload_n 0, 1) := by decide +kernel
theorem dX2_writeBlock_28 : decode cX2_writeBlock 28 = .ok (.getfield 50, 3) := by decide +kernel
theorem dX2_writeBlock_31 : decode cX2_writeBlock 31 = .ok (.ifCond .eq 5, 3) := by decide +kernel
theorem dX2_writeBlock_34 : decode cX2_writeBlock 34 = .ok (.iconst 0, 1) := by decide +kernel
theorem dX2_writeBlock_35 : decode cX2_writeBlock 35 = .ok (.ireturn, 1) := by decide +kernel
theorem dX2_writeBlock_36 : decode cX2_writeBlock 36 = .ok (.aload_n 0, 1) := by decide +kernel
theorem dX2_writeBlock_37 : decode cX2_writeBlock 37 = .ok (.dup, 1) := by decide +kernel
theorem dX2_writeBlock_38 : decode cX2_writeBlock 38 = .ok (.getfield 131, 3) := by decide +kernel
theorem dX2_writeBlock_41 : decode cX2_writeBlock 41 = .ok (.iconst 1, 1) := by decide +kernel
theorem dX2_writeBlock_42 : decode cX2_writeBlock 42 = .ok (.iadd, 1) := by decide +kernel
theorem dX2_writeBlock_43 : decode cX2_writeBlock 43 = .ok (.putfield 131, 3) := by decide +kernel
theorem dX2_writeBlock_46 : decode cX2_writeBlock 46 = .ok (.iconst 1, 1) := by decide +kernel
theorem dX2_writeBlock_47 : decode cX2_writeBlock 47 = .ok (.ireturn, 1) := by decide +kernel
