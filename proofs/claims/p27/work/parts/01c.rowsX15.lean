set_option maxRecDepth 20000 in
theorem ggX1_init_X0_init : GoodIn wsX1_init wsX0_init := goodIn_r _ [10, 11, 2, 3, 12, 13, 14, 15, 16, 17, 18, 19, 20, 21, 22, 23, 24, 25, 26, 27, 28, 29, 30, 31, 32, 33, 34, 35, 36, 37, 38, 39, 40, 41, 42, 43, 44, 45, 46, 7, 47, 58, 59, 60, 51, 52, 53, 54, 55, 56, 57, 61, 62, 63] (by decide +kernel) (by decide +kernel)
set_option maxRecDepth 20000 in
theorem gX1_init_X0_init : GoodIn wsX1_init (wsX0_init) := ggX1_init_X0_init
theorem dX1_init_0 : decode cX1_init 0 = .ok (.aload_n 0, 1) := by decide +kernel
theorem dX1_init_1 : decode cX1_init 1 = .ok (.invokespecial 3, 3) := by decide +kernel
theorem dX1_init_4 : decode cX1_init 4 = .ok (.aload_n 0, 1) := by decide +kernel
theorem dX1_init_5 : decode cX1_init 5 = .ok (.iconst 4, 1) := by decide +kernel
theorem dX1_init_6 : decode cX1_init 6 = .ok (.anewarray 9, 3) := by decide +kernel
theorem dX1_init_9 : decode cX1_init 9 = .ok (.putfield 11, 3) := by decide +kernel
theorem dX1_init_12 : decode cX1_init 12 = .ok (.iconst 0, 1) := by decide +kernel
theorem dX1_init_13 : decode cX1_init 13 = .ok (.istore_n 1, 1) := by decide +kernel
theorem dX1_init_14 : decode cX1_init 14 = .ok (.iload_n 1, 1) := by decide +kernel
theorem dX1_init_15 : decode cX1_init 15 = .ok (.aload_n 0, 1) := by decide +kernel
theorem dX1_init_16 : decode cX1_init 16 = .ok (.getfield 11, 3) := by decide +kernel
theorem dX1_init_19 : decode cX1_init 19 = .ok (.arraylength, 1) := by decide +kernel
theorem dX1_init_20 : decode cX1_init 20 = .ok (.if_icmp .ge 22, 3) := by decide +kernel
theorem dX1_init_23 : decode cX1_init 23 = .ok (.aload_n 0, 1) := by decide +kernel
theorem dX1_init_24 : decode cX1_init 24 = .ok (.getfield 11, 3) := by decide +kernel
theorem dX1_init_27 : decode cX1_init 27 = .ok (.iload_n 1, 1) := by decide +kernel
theorem dX1_init_28 : decode cX1_init 28 = .ok (.new 9, 3) := by decide +kernel
theorem dX1_init_31 : decode cX1_init 31 = .ok (.dup, 1) := by decide +kernel
theorem dX1_init_32 : decode cX1_init 32 = .ok (.invokespecial 17, 3) := by decide +kernel
theorem dX1_init_35 : decode cX1_init 35 = .ok (.aastore, 1) := by decide +kernel
theorem dX1_init_36 : decode cX1_init 36 = .ok (.iinc 1 1, 3) := by decide +kernel
theorem dX1_init_39 : decode cX1_init 39 = .ok (.goto (-25), 3) := by decide +kernel
theorem dX1_init_42 : decode cX1_init 42 = .ok (.return_, 1) := by decide +kernel
theorem dX1_size_0 : decode cX1_size 0 = .ok (.aload_n 0, 1) := by decide +kernel
theorem dX1_size_1 : decode cX1_size 1 = .ok (.getfield 18, 3) := by decide +kernel
theorem dX1_size_4 : decode cX1_size 4 = .ok (.ireturn, 1) := by decide +kernel
set_option maxRecDepth 20000 in
theorem ggX1_record_X1_stateAt : GoodIn wsX1_record wsX1_stateAt := goodIn_r _ [7, 2, 8, 46, 47, 48] (by decide +kernel) (by decide +kernel)
set_option maxRecDepth 20000 in
theorem gX1_record_X1_stateAt : GoodIn wsX1_record (wsV RX1 25 RX1 yX1_stateAt wsX1_stateAt) := goodIn_app (goodIn_of _ (by decide +kernel)) ggX1_record_X1_stateAt
set_option maxRecDepth 20000 in
theorem ggX1_record_X0_copyFrom : GoodIn wsX1_record wsX0_copyFrom := goodIn_r _ [13, 14, 15, 16, 17, 18, 19, 20, 21, 22, 23, 24, 25, 26, 27, 28, 29, 30, 31, 32, 33, 34, 35, 36, 37, 38, 39, 40, 41, 42, 43, 44, 45, 49, 50, 51, 52, 53, 54, 55, 56, 57, 58, 59, 60, 61] (by decide +kernel) (by decide +kernel)
set_option maxRecDepth 20000 in
theorem gX1_record_X0_copyFrom : GoodIn wsX1_record (wsV RX1 29 RX0 yX0_copyFrom wsX0_copyFrom) := goodIn_app (goodIn_of _ (by decide +kernel)) ggX1_record_X0_copyFrom
theorem dX1_record_0 : decode cX1_record 0 = .ok (.aload_n 0, 1) := by decide +kernel
theorem dX1_record_1 : decode cX1_record 1 = .ok (.getfield 18, 3) := by decide +kernel
theorem dX1_record_4 : decode cX1_record 4 = .ok (.iconst 4, 1) := by decide +kernel
theorem dX1_record_5 : decode cX1_record 5 = .ok (.if_icmp .lt 25, 3) := by decide +kernel
theorem dX1_record_8 : decode cX1_record 8 = .ok (.aload_n 0, 1) := by decide +kernel
theorem dX1_record_9 : decode cX1_record 9 = .ok (.aload_n 0, 1) := by decide +kernel
theorem dX1_record_10 : decode cX1_record 10 = .ok (.getfield 22, 3) := by decide +kernel
theorem dX1_record_13 : decode cX1_record 13 = .ok (.iconst 1, 1) := by decide +kernel
theorem dX1_record_14 : decode cX1_record 14 = .ok (.iadd, 1) := by decide +kernel
theorem dX1_record_15 : decode cX1_record 15 = .ok (.iconst 4, 1) := by decide +kernel
theorem dX1_record_16 : decode cX1_record 16 = .ok (.irem, 1) := by decide +kernel
theorem dX1_record_17 : decode cX1_record 17 = .ok (.putfield 22, 3) := by decide +kernel
theorem dX1_record_20 : decode cX1_record 20 = .ok (.aload_n 0, 1) := by decide +kernel
theorem dX1_record_21 : decode cX1_record 21 = .ok (.dup, 1) := by decide +kernel
theorem dX1_record_22 : decode cX1_record 22 = .ok (.getfield 18, 3) := by decide +kernel
theorem dX1_record_25 : decode cX1_record 25 = .ok (.iconst 1, 1) := by decide +kernel
theorem dX1_record_26 : decode cX1_record 26 = .ok (.isub, 1) := by decide +kernel
theorem dX1_record_27 : decode cX1_record 27 = .ok (.putfield 18, 3) := by decide +kernel
theorem dX1_record_30 : decode cX1_record 30 = .ok (.aload_n 0, 1) := by decide +kernel
theorem dX1_record_31 : decode cX1_record 31 = .ok (.aload_n 0, 1) := by decide +kernel
theorem dX1_record_32 : decode cX1_record 32 = .ok (.getfield 18, 3) := by decide +kernel
theorem dX1_record_35 : decode cX1_record 35 = .ok (.invokevirtual 25, 3) := by decide +kernel
theorem dX1_record_38 : decode cX1_record 38 = .ok (.astore_n 2, 1) := by decide +kernel
theorem dX1_record_39 : decode cX1_record 39 = .ok (.aload_n 2, 1) := by decide +kernel
theorem dX1_record_40 : decode cX1_record 40 = .ok (.ifnull 18, 3) := by decide +kernel
theorem dX1_record_43 : decode cX1_record 43 = .ok (.aload_n 2, 1) := by decide +kernel
theorem dX1_record_44 : decode cX1_record 44 = .ok (.aload_n 1, 1) := by decide +kernel
theorem dX1_record_45 : decode cX1_record 45 = .ok (.invokevirtual 29, 3) := by decide +kernel
theorem dX1_record_48 : decode cX1_record 48 = .ok (.aload_n 0, 1) := by decide +kernel
theorem dX1_record_49 : decode cX1_record 49 = .ok (.dup, 1) := by decide +kernel
theorem dX1_record_50 : decode cX1_record 50 = .ok (.getfield 18, 3) := by decide +kernel
theorem dX1_record_53 : decode cX1_record 53 = .ok (.iconst 1, 1) := by decide +kernel
theorem dX1_record_54 : decode cX1_record 54 = .ok (.iadd, 1) := by decide +kernel
theorem dX1_record_55 : decode cX1_record 55 = .ok (.putfield 18, 3) := by decide +kernel
theorem dX1_record_58 : decode cX1_record 58 = .ok (.return_, 1) := by decide +kernel
set_option maxRecDepth 20000 in
theorem ggX1_takeBackInto_X1_stateAt : GoodIn wsX1_takeBackInto wsX1_stateAt := goodIn_r _ [6, 7, 8, 46, 47, 48] (by decide +kernel) (by decide +kernel)
set_option maxRecDepth 20000 in
theorem gX1_takeBackInto_X1_stateAt : GoodIn wsX1_takeBackInto (wsV RX1 25 RX1 yX1_stateAt wsX1_stateAt) := goodIn_app (goodIn_of _ (by decide +kernel)) ggX1_takeBackInto_X1_stateAt
set_option maxRecDepth 20000 in
theorem ggX1_takeBackInto_X0_copyFrom : GoodIn wsX1_takeBackInto wsX0_copyFrom := goodIn_r _ [13, 14, 15, 16, 17, 18, 19, 20, 21, 22, 23, 24, 25, 26, 27, 28, 29, 30, 31, 32, 33, 34, 35, 36, 37, 38, 39, 40, 41, 42, 43, 44, 45, 49, 50, 51, 52, 53, 54, 55, 56, 57, 58, 59, 60, 61] (by decide +kernel) (by decide +kernel)
set_option maxRecDepth 20000 in
theorem gX1_takeBackInto_X0_copyFrom : GoodIn wsX1_takeBackInto (wsV RX1 29 RX0 yX0_copyFrom wsX0_copyFrom) := goodIn_app (goodIn_of _ (by decide +kernel)) ggX1_takeBackInto_X0_copyFrom
theorem dX1_takeBackInto_0 : decode cX1_takeBackInto 0 = .ok (.aload_n 0, 1) := by decide +kernel
theorem dX1_takeBackInto_1 : decode cX1_takeBackInto 1 = .ok (.aload_n 0, 1) := by decide +kernel
theorem dX1_takeBackInto_2 : decode cX1_takeBackInto 2 = .ok (.getfield 18, 3) := by decide +kernel
theorem dX1_takeBackInto_5 : decode cX1_takeBackInto 5 = .ok (.iconst 1, 1) := by decide +kernel
theorem dX1_takeBackInto_6 : decode cX1_takeBackInto 6 = .ok (.isub, 1) := by decide +kernel
theorem dX1_takeBackInto_7 : decode cX1_takeBackInto 7 = .ok (.invokevirtual 25, 3) := by decide +kernel
theorem dX1_takeBackInto_10 : decode cX1_takeBackInto 10 = .ok (.astore_n 2, 1) := by decide +kernel
theorem dX1_takeBackInto_11 : decode cX1_takeBackInto 11 = .ok (.aload_n 0, 1) := by decide +kernel
theorem dX1_takeBackInto_12 : decode cX1_takeBackInto 12 = .ok (.getfield 18, 3) := by decide +kernel
theorem dX1_takeBackInto_15 : decode cX1_takeBackInto 15 = .ok (.ifCond .le 7, 3) := by decide +kernel
theorem dX1_takeBackInto_18 : decode cX1_takeBackInto 18 = .ok (.aload_n 2, 1) := by decide +kernel
theorem dX1_takeBackInto_19 : decode cX1_takeBackInto 19 = .ok (.ifnonnull 6, 3) := by decide +kernel
theorem dX1_takeBackInto_22 : decode cX1_takeBackInto 22 = .ok (.bipush (-5), 2) := by decide +kernel
theorem dX1_takeBackInto_24 : decode cX1_takeBackInto 24 = .ok (.ireturn, 1) := by decide +kernel
theorem dX1_takeBackInto_25 : decode cX1_takeBackInto 25 = .ok (.aload_n 1, 1) := by decide +kernel
theorem dX1_takeBackInto_26 : decode cX1_takeBackInto 26 = .ok (.aload_n 2, 1) := by decide +kernel
theorem dX1_takeBackInto_27 : decode cX1_takeBackInto 27 = .ok (.invokevirtual 29, 3) := by decide +kernel
theorem dX1_takeBackInto_30 : decode cX1_takeBackInto 30 = .ok (.aload_n 0, 1) := by decide +kernel
theorem dX1_takeBackInto_31 : decode cX1_takeBackInto 31 = .ok (.dup, 1) := by decide +kernel
theorem dX1_takeBackInto_32 : decode cX1_takeBackInto 32 = .ok (.getfield 18, 3) := by decide +kernel
theorem dX1_takeBackInto_35 : decode cX1_takeBackInto 35 = .ok (.iconst 1, 1) := by decide +kernel
theorem dX1_takeBackInto_36 : decode cX1_takeBackInto 36 = .ok (.isub, 1) := by decide +kernel
theorem dX1_takeBackInto_37 : decode cX1_takeBackInto 37 = .ok (.putfield 18, 3) := by decide +kernel
theorem dX1_takeBackInto_40 : decode cX1_takeBackInto 40 = .ok (.aload_n 0, 1) := by decide +kernel
theorem dX1_takeBackInto_41 : decode cX1_takeBackInto 41 = .ok (.getfield 18, 3) := by decide +kernel
theorem dX1_takeBackInto_44 : decode cX1_takeBackInto 44 = .ok (.ireturn, 1) := by decide +kernel
theorem dX1_stateAt_0 : decode cX1_stateAt 0 = .ok (.aload_n 0, 1) := by decide +kernel
theorem dX1_stateAt_1 : decode cX1_stateAt 1 = .ok (.getfield 22, 3) := by decide +kernel
theorem dX1_stateAt_4 : decode cX1_stateAt 4 = .ok (.iload_n 1, 1) := by decide +kernel
theorem dX1_stateAt_5 : decode cX1_stateAt 5 = .ok (.iadd, 1) := by decide +kernel
theorem dX1_stateAt_6 : decode cX1_stateAt 6 = .ok (.iconst 4, 1) := by decide +kernel
theorem dX1_stateAt_7 : decode cX1_stateAt 7 = .ok (.irem, 1) := by decide +kernel
theorem dX1_stateAt_8 : decode cX1_stateAt 8 = .ok (.istore_n 2, 1) := by decide +kernel
theorem dX1_stateAt_9 : decode cX1_stateAt 9 = .ok (.iload_n 2, 1) := by decide +kernel
theorem dX1_stateAt_10 : decode cX1_stateAt 10 = .ok (.ifCond .lt 21, 3) := by decide +kernel
theorem dX1_stateAt_13 : decode cX1_stateAt 13 = .ok (.iload_n 2, 1) := by decide +kernel
theorem dX1_stateAt_14 : decode cX1_stateAt 14 = .ok (.aload_n 0, 1) := by decide +kernel
theorem dX1_stateAt_15 : decode cX1_stateAt 15 = .ok (.getfield 11, 3) := by decide +kernel
theorem dX1_stateAt_18 : decode cX1_stateAt 18 = .ok (.arraylength, 1) := by decide +kernel
theorem dX1_stateAt_19 : decode cX1_stateAt 19 = .ok (.if_icmp .ge 12, 3) := by decide +kernel
theorem dX1_stateAt_22 : decode cX1_stateAt 22 = .ok (.aload_n 0, 1) := by decide +kernel
theorem dX1_stateAt_23 : decode cX1_stateAt 23 = .ok (.getfield 11, 3) := by decide +kernel
theorem dX1_stateAt_26 : decode cX1_stateAt 26 = .ok (.iload_n 2, 1) := by decide +kernel
theorem dX1_stateAt_27 : decode cX1_stateAt 27 = .ok (.aaload, 1) := by decide +kernel
theorem dX1_stateAt_28 : decode cX1_stateAt 28 = .ok (.goto 4, 3) := by decide +kernel
theorem dX1_stateAt_31 : decode cX1_stateAt 31 = .ok (.aconst_null, 1) := by decide +kernel
theorem dX1_stateAt_32 : decode cX1_stateAt 32 = .ok (.areturn, 1) := by decide +kernel
set_option maxRecDepth 20000 in
theorem ggX2_init_X4_init : GoodIn wsX2_init wsX4_init := goodIn_r _ [13, 14, 2, 3, 15, 16, 22, 23, 24] (by decide +kernel) (by decide +kernel)
set_option maxRecDepth 20000 in
theorem gX2_init_X4_init : GoodIn wsX2_init (wsX4_init) := ggX2_init_X4_init
theorem dX2_init_0 : decode cX2_init 0 = .ok (.aload_n 0, 1) := by decide +kernel
theorem dX2_init_1 : decode cX2_init 1 = .ok (.invokespecial 3, 3) := by decide +kernel
theorem dX2_init_4 : decode cX2_init 4 = .ok (.aload_n 0, 1) := by decide +kernel
theorem dX2_init_5 : decode cX2_init 5 = .ok (.bipush 60, 2) := by decide +kernel
theorem dX2_init_7 : decode cX2_init 7 = .ok (.newarray .char, 2) := by decide +kernel
theorem dX2_init_9 : decode cX2_init 9 = .ok (.putfield 9, 3) := by decide +kernel
theorem dX2_init_12 : decode cX2_init 12 = .ok (.aload_n 0, 1) := by decide +kernel
theorem dX2_init_13 : decode cX2_init 13 = .ok (.new 15, 3) := by decide +kernel
theorem dX2_init_16 : decode cX2_init 16 = .ok (.dup, 1) := by decide +kernel
theorem dX2_init_17 : decode cX2_init 17 = .ok (.sipush 150, 3) := by decide +kernel
theorem dX2_init_20 : decode cX2_init 20 = .ok (.newarray .int, 2) := by decide +kernel
theorem dX2_init_22 : decode cX2_init 22 = .ok (.iconst 5, 1) := by decide +kernel
theorem dX2_init_23 : decode cX2_init 23 = .ok (.invokespecial 17, 3) := by decide +kernel
theorem dX2_init_26 : decode cX2_init 26 = .ok (.putfield 20, 3) := by decide +kernel
theorem dX2_init_29 : decode cX2_init 29 = .ok (.return_, 1) := by decide +kernel
theorem dX2_textLength_0 : decode cX2_textLength 0 = .ok (.aload_n 0, 1) := by decide +kernel
theorem dX2_textLength_1 : decode cX2_textLength 1 = .ok (.getfield 24, 3) := by decide +kernel
theorem dX2_textLength_4 : decode cX2_textLength 4 = .ok (.ireturn, 1) := by decide +kernel
theorem dX2_addCharacter_0 : decode cX2_addCharacter 0 = .ok (.aload_n 0, 1) := by decide +kernel
theorem dX2_addCharacter_1 : decode cX2_addCharacter 1 = .ok (.getfield 24, 3) := by decide +kernel
theorem dX2_addCharacter_4 : decode cX2_addCharacter 4 = .ok (.ifCond .lt 15, 3) := by decide +kernel
theorem dX2_addCharacter_7 : decode cX2_addCharacter 7 = .ok (.aload_n 0, 1) := by decide +kernel
theorem dX2_addCharacter_8 : decode cX2_addCharacter 8 = .ok (.getfield 24, 3) := by decide +kernel
theorem dX2_addCharacter_11 : decode cX2_addCharacter 11 = .ok (.aload_n 0, 1) := by decide +kernel
theorem dX2_addCharacter_12 : decode cX2_addCharacter 12 = .ok (.getfield 9, 3) := by decide +kernel
theorem dX2_addCharacter_15 : decode cX2_addCharacter 15 = .ok (.arraylength, 1) := by decide +kernel
theorem dX2_addCharacter_16 : decode cX2_addCharacter 16 = .ok (.if_icmp .lt 6, 3) := by decide +kernel
theorem dX2_addCharacter_19 : decode cX2_addCharacter 19 = .ok (.bipush (-3), 2) := by decide +kernel
theorem dX2_addCharacter_21 : decode cX2_addCharacter 21 = .ok (.ireturn, 1) := by decide +kernel
theorem dX2_addCharacter_22 : decode cX2_addCharacter 22 = .ok (.aload_n 0, 1) := by decide +kernel
theorem dX2_addCharacter_23 : decode cX2_addCharacter 23 = .ok (.getfield 9, 3) := by decide +kernel
theorem dX2_addCharacter_26 : decode cX2_addCharacter 26 = .ok (.aload_n 0, 1) := by decide +kernel
theorem dX2_addCharacter_27 : decode cX2_addCharacter 27 = .ok (.getfield 24, 3) := by decide +kernel
theorem dX2_addCharacter_30 : decode cX2_addCharacter 30 = .ok (.iload_n 1, 1) := by decide +kernel
theorem dX2_addCharacter_31 : decode cX2_addCharacter 31 = .ok (.castore, 1) := by decide +kernel
theorem dX2_addCharacter_32 : decode cX2_addCharacter 32 = .ok (.aload_n 0, 1) := by decide +kernel
theorem dX2_addCharacter_33 : decode cX2_addCharacter 33 = .ok (.dup, 1) := by decide +kernel
theorem dX2_addCharacter_34 : decode cX2_addCharacter 34 = .ok (.getfield 24, 3) := by decide +kernel
theorem dX2_addCharacter_37 : decode cX2_addCharacter 37 = .ok (.iconst 1, 1) := by decide +kernel
theorem dX2_addCharacter_38 : decode cX2_addCharacter 38 = .ok (.iadd, 1) := by decide +kernel
theorem dX2_addCharacter_39 : decode cX2_addCharacter 39 = .ok (.putfield 24, 3) := by decide +kernel
theorem dX2_addCharacter_42 : decode cX2_addCharacter 42 = .ok (.aload_n 0, 1) := by decide +kernel
theorem dX2_addCharacter_43 : decode cX2_addCharacter 43 = .ok (.getfield 24, 3) := by decide +kernel
theorem dX2_addCharacter_46 : decode cX2_addCharacter 46 = .ok (.ireturn, 1) := by decide +kernel
theorem dX2_emptyText_0 : decode cX2_emptyText 0 = .ok (.aload_n 0, 1) := by decide +kernel
theorem dX2_emptyText_1 : decode cX2_emptyText 1 = .ok (.getfield 24, 3) := by decide +kernel
theorem dX2_emptyText_4 : decode cX2_emptyText 4 = .ok (.istore_n 1, 1) := by decide +kernel
theorem dX2_emptyText_5 : decode cX2_emptyText 5 = .ok (.aload_n 0, 1) := by decide +kernel
theorem dX2_emptyText_6 : decode cX2_emptyText 6 = .ok (.iconst 0, 1) := by decide +kernel
theorem dX2_emptyText_7 : decode cX2_emptyText 7 = .ok (.putfield 24, 3) := by decide +kernel
theorem dX2_emptyText_10 : decode cX2_emptyText 10 = .ok (.iload_n 1, 1) := by decide +kernel
theorem dX2_emptyText_11 : decode cX2_emptyText 11 = .ok (.ireturn, 1) := by decide +kernel
set_option maxRecDepth 20000 in
theorem ggX2_thingCount_X4_rows : GoodIn wsX2_thingCount wsX4_rows := goodIn_r _ [6, 7, 13, 14, 15] (by decide +kernel) (by decide +kernel)
set_option maxRecDepth 20000 in
theorem gX2_thingCount_X4_rows : GoodIn wsX2_thingCount (wsV RX2 28 RX4 yX4_rows wsX4_rows) := goodIn_app (goodIn_of _ (by decide +kernel)) ggX2_thingCount_X4_rows
theorem dX2_thingCount_0 : decode cX2_thingCount 0 = .ok (.aload_n 0, 1) := by decide +kernel
theorem dX2_thingCount_1 : decode cX2_thingCount 1 = .ok (.getfield 20, 3) := by decide +kernel
theorem dX2_thingCount_4 : decode cX2_thingCount 4 = .ok (.invokevirtual 28, 3) := by decide +kernel
theorem dX2_thingCount_7 : decode cX2_thingCount 7 = .ok (.ireturn, 1) := by decide +kernel
set_option maxRecDepth 20000 in
theorem ggX2_numberOf_X4_get : GoodIn wsX2_numberOf wsX4_get := goodIn_r _ [6, 7, 8, 14, 15, 16] (by decide +kernel) (by decide +kernel)
set_option maxRecDepth 20000 in
theorem gX2_numberOf_X4_get : GoodIn wsX2_numberOf (wsV RX2 32 RX4 yX4_get wsX4_get) := goodIn_app (goodIn_of _ (by decide +kernel)) ggX2_numberOf_X4_get
theorem dX2_numberOf_0 : decode cX2_numberOf 0 = .ok (.aload_n 0, 1) := by decide +kernel
theorem dX2_numberOf_1 : decode cX2_numberOf 1 = .ok (.getfield 20, 3) := by decide +kernel
theorem dX2_numberOf_4 : decode cX2_numberOf 4 = .ok (.iload_n 1, 1) := by decide +kernel
theorem dX2_numberOf_5 : decode cX2_numberOf 5 = .ok (.iload_n 2, 1) := by decide +kernel
theorem dX2_numberOf_6 : decode cX2_numberOf 6 = .ok (.invokevirtual 32, 3) := by decide +kernel
theorem dX2_numberOf_9 : decode cX2_numberOf 9 = .ok (.ireturn, 1) := by decide +kernel
set_option maxRecDepth 20000 in
theorem ggX2_read_X4_dropRows : GoodIn wsX2_read wsX4_dropRows := goodIn_r _ [9, 10, 48, 49, 50] (by decide +kernel) (by decide +kernel)
set_option maxRecDepth 20000 in
theorem gX2_read_X4_dropRows : GoodIn wsX2_read (wsV RX2 36 RX4 yX4_dropRows wsX4_dropRows) := goodIn_app (goodIn_of _ (by decide +kernel)) ggX2_read_X4_dropRows
set_option maxRecDepth 20000 in
theorem ggX2_read_X4_addRow : GoodIn wsX2_read wsX4_addRow := goodIn_r _ [14, 10, 48, 49, 50] (by decide +kernel) (by decide +kernel)
set_option maxRecDepth 20000 in
theorem gX2_read_X4_addRow : GoodIn wsX2_read (wsV RX2 46 RX4 yX4_addRow wsX4_addRow) := goodIn_app (goodIn_of _ (by decide +kernel)) ggX2_read_X4_addRow
set_option maxRecDepth 20000 in
theorem ggX2_read_X2_readThing : GoodIn wsX2_read wsX2_readThing := goodIn_r _ [19, 2, 1, 3, 20, 21, 22, 18, 23, 4, 24, 25, 26, 27, 8, 28, 29, 30, 31, 32, 33, 34, 35, 36, 37, 38, 39, 40, 41, 42, 43, 44, 45, 46, 47, 48, 49, 50] (by decide +kernel) (by decide +kernel)
set_option maxRecDepth 20000 in
theorem gX2_read_X2_readThing : GoodIn wsX2_read (wsV RX2 49 RX2 yX2_readThing wsX2_readThing) := goodIn_app (goodIn_of _ (by decide +kernel)) ggX2_read_X2_readThing
set_option maxRecDepth 20000 in
theorem ggX2_read_X2_expect : GoodIn wsX2_read wsX2_expect := goodIn_r _ [42, 2, 3, 20, 21, 22, 18, 23, 4, 24, 43, 44, 45, 46, 47] (by decide +kernel) (by decide +kernel)
set_option maxRecDepth 20000 in
theorem gX2_read_X2_expect : GoodIn wsX2_read (wsV RX2 53 RX2 yX2_expect wsX2_expect) := goodIn_app (goodIn_of _ (by decide +kernel)) ggX2_read_X2_expect
theorem dX2_read_0 : decode cX2_read 0 = .ok (.aload_n 0, 1) := by decide +kernel
theorem dX2_read_1 : decode cX2_read 1 = .ok (.getfield 20, 3) := by decide +kernel
theorem dX2_read_4 : decode cX2_read 4 = .ok (.invokevirtual 36, 3) := by decide +kernel
theorem dX2_read_7 : decode cX2_read 7 = .ok (.aload_n 0, 1) := by decide +kernel
theorem dX2_read_8 : decode cX2_read 8 = .ok (.iconst 0, 1) := by decide +kernel
theorem dX2_read_9 : decode cX2_read 9 = .ok (.putfield 39, 3) := by decide +kernel
theorem dX2_read_12 : decode cX2_read 12 = .ok (.aload_n 0, 1) := by decide +kernel
theorem dX2_read_13 : decode cX2_read 13 = .ok (.iconst 0, 1) := by decide +kernel
theorem dX2_read_14 : decode cX2_read 14 = .ok (.putfield 42, 3) := by decide +kernel
theorem dX2_read_17 : decode cX2_read 17 = .ok (.iconst 0, 1) := by decide +kernel
theorem dX2_read_18 : decode cX2_read 18 = .ok (.istore_n 1, 1) := by decide +kernel
theorem dX2_read_19 : decode cX2_read 19 = .ok (.iload_n 1, 1) := by decide +kernel
theorem dX2_read_20 : decode cX2_read 20 = .ok (.bipush 30, 2) := by decide +kernel
theorem dX2_read_22 : decode cX2_read 22 = .ok (.if_icmp .ge 51, 3) := by decide +kernel
theorem dX2_read_25 : decode cX2_read 25 = .ok (.aload_n 0, 1) := by decide +kernel
theorem dX2_read_26 : decode cX2_read 26 = .ok (.aload_n 0, 1) := by decide +kernel
theorem dX2_read_27 : decode cX2_read 27 = .ok (.getfield 20, 3) := by decide +kernel
theorem dX2_read_30 : decode cX2_read 30 = .ok (.invokevirtual 46, 3) := by decide +kernel
theorem dX2_read_33 : decode cX2_read 33 = .ok (.invokevirtual 49, 3) := by decide +kernel
theorem dX2_read_36 : decode cX2_read 36 = .ok (.aload_n 0, 1) := by decide +kernel
theorem dX2_read_37 : decode cX2_read 37 = .ok (.getfield 42, 3) := by decide +kernel
theorem dX2_read_40 : decode cX2_read 40 = .ok (.ifCond .eq 8, 3) := by decide +kernel
theorem dX2_read_43 : decode cX2_read 43 = .ok (.aload_n 0, 1) := by decide +kernel
theorem dX2_read_44 : decode cX2_read 44 = .ok (.getfield 39, 3) := by decide +kernel
theorem dX2_read_47 : decode cX2_read 47 = .ok (.ireturn, 1) := by decide +kernel
theorem dX2_read_48 : decode cX2_read 48 = .ok (.aload_n 0, 1) := by decide +kernel
theorem dX2_read_49 : decode cX2_read 49 = .ok (.getfield 39, 3) := by decide +kernel
theorem dX2_read_52 : decode cX2_read 52 = .ok (.aload_n 0, 1) := by decide +kernel
theorem dX2_read_53 : decode cX2_read 53 = .ok (.getfield 24, 3) := by decide +kernel
theorem dX2_read_56 : decode cX2_read 56 = .ok (.if_icmp .ne 5, 3) := by decide +kernel
theorem dX2_read_59 : decode cX2_read 59 = .ok (.iconst (-1), 1) := by decide +kernel
theorem dX2_read_60 : decode cX2_read 60 = .ok (.ireturn, 1) := by decide +kernel
theorem dX2_read_61 : decode cX2_read 61 = .ok (.aload_n 0, 1) := by decide +kernel
theorem dX2_read_62 : decode cX2_read 62 = .ok (.bipush 59, 2) := by decide +kernel
theorem dX2_read_64 : decode cX2_read 64 = .ok (.invokevirtual 53, 3) := by decide +kernel
theorem dX2_read_67 : decode cX2_read 67 = .ok (.iinc 1 1, 3) := by decide +kernel
theorem dX2_read_70 : decode cX2_read 70 = .ok (.goto (-51), 3) := by decide +kernel
theorem dX2_read_73 : decode cX2_read 73 = .ok (.aload_n 0, 1) := by decide +kernel
theorem dX2_read_74 : decode cX2_read 74 = .ok (.getfield 39, 3) := by decide +kernel
theorem dX2_read_77 : decode cX2_read 77 = .ok (.ireturn, 1) := by decide +kernel
set_option maxRecDepth 20000 in
theorem ggX2_readThing_X2_here : GoodIn wsX2_readThing wsX2_here := goodIn_r _ [8, 1, 9, 10, 3, 30, 31, 32, 33, 34] (by decide +kernel) (by decide +kernel)
set_option maxRecDepth 20000 in
theorem gX2_readThing_X2_here : GoodIn wsX2_readThing (wsV RX2 56 RX2 yX2_here wsX2_here) := goodIn_app (goodIn_of _ (by decide +kernel)) ggX2_readThing_X2_here
set_option maxRecDepth 20000 in
theorem ggX2_readThing_X4_put : GoodIn wsX2_readThing wsX4_put := goodIn_r _ [15, 16, 17, 35, 36, 37] (by decide +kernel) (by decide +kernel)
set_option maxRecDepth 20000 in
theorem gX2_readThing_X4_put : GoodIn wsX2_readThing (wsV RX2 59 RX4 yX4_put wsX4_put) := goodIn_app (goodIn_of _ (by decide +kernel)) ggX2_readThing_X4_put
set_option maxRecDepth 20000 in
theorem ggX2_readThing_X2_readNumber : GoodIn wsX2_readThing wsX2_readNumber := goodIn_r _ [21, 3, 1, 2, 22, 23, 24, 7, 25, 4, 5, 6, 8, 9, 10, 11, 12, 13, 14, 15, 16, 17, 30, 31, 32, 33, 34, 35, 36, 37] (by decide +kernel) (by decide +kernel)
set_option maxRecDepth 20000 in
theorem gX2_readThing_X2_readNumber : GoodIn wsX2_readThing (wsV RX2 63 RX2 yX2_readNumber wsX2_readNumber) := goodIn_app (goodIn_of _ (by decide +kernel)) ggX2_readThing_X2_readNumber
set_option maxRecDepth 20000 in
theorem ggX2_readThing_X2_expect : GoodIn wsX2_readThing wsX2_expect := goodIn_r _ [29, 1, 3, 4, 5, 6, 7, 8, 9, 10, 30, 31, 32, 33, 34] (by decide +kernel) (by decide +kernel)
set_option maxRecDepth 20000 in
theorem gX2_readThing_X2_expect : GoodIn wsX2_readThing (wsV RX2 53 RX2 yX2_expect wsX2_expect) := goodIn_app (goodIn_of _ (by decide +kernel)) ggX2_readThing_X2_expect
theorem dX2_readThing_0 : decode cX2_readThing 0 = .ok (.aload_n 0, 1) := by decide +kernel
theorem dX2_readThing_1 : decode cX2_readThing 1 = .ok (.invokevirtual 56, 3) := by decide +kernel
theorem dX2_readThing_4 : decode cX2_readThing 4 = .ok (.lookupswitch 207 #[(46, 175), (97, 98), (114, 36)], 36) := by decide +kernel
theorem dX2_readThing_40 : decode cX2_readThing 40 = .ok (.aload_n 0, 1) := by decide +kernel
theorem dX2_readThing_41 : decode cX2_readThing 41 = .ok (.dup, 1) := by decide +kernel
theorem dX2_readThing_42 : decode cX2_readThing 42 = .ok (.getfield 39, 3) := by decide +kernel
theorem dX2_readThing_45 : decode cX2_readThing 45 = .ok (.iconst 1, 1) := by decide +kernel
theorem dX2_readThing_46 : decode cX2_readThing 46 = .ok (.iadd, 1) := by decide +kernel
theorem dX2_readThing_47 : decode cX2_readThing 47 = .ok (.putfield 39, 3) := by decide +kernel
theorem dX2_readThing_50 : decode cX2_readThing 50 = .ok (.aload_n 0, 1) := by decide +kernel
theorem dX2_readThing_51 : decode cX2_readThing 51 = .ok (.getfield 20, 3) := by decide +kernel
theorem dX2_readThing_54 : decode cX2_readThing 54 = .ok (.iload_n 1, 1) := by decide +kernel
theorem dX2_readThing_55 : decode cX2_readThing 55 = .ok (.iconst 0, 1) := by decide +kernel
theorem dX2_readThing_56 : decode cX2_readThing 56 = .ok (.iconst 0, 1) := by decide +kernel
theorem dX2_readThing_57 : decode cX2_readThing 57 = .ok (.invokevirtual 59, 3) := by decide +kernel
theorem dX2_readThing_60 : decode cX2_readThing 60 = .ok (.aload_n 0, 1) := by decide +kernel
theorem dX2_readThing_61 : decode cX2_readThing 61 = .ok (.iload_n 1, 1) := by decide +kernel
theorem dX2_readThing_62 : decode cX2_readThing 62 = .ok (.iconst 1, 1) := by decide +kernel
theorem dX2_readThing_63 : decode cX2_readThing 63 = .ok (.iconst 0, 1) := by decide +kernel
theorem dX2_readThing_64 : decode cX2_readThing 64 = .ok (.bipush 7, 2) := by decide +kernel
theorem dX2_readThing_66 : decode cX2_readThing 66 = .ok (.invokevirtual 63, 3) := by decide +kernel
theorem dX2_readThing_69 : decode cX2_readThing 69 = .ok (.aload_n 0, 1) := by decide +kernel
theorem dX2_readThing_70 : decode cX2_readThing 70 = .ok (.bipush 58, 2) := by decide +kernel
theorem dX2_readThing_72 : decode cX2_readThing 72 = .ok (.invokevirtual 53, 3) := by decide +kernel
theorem dX2_readThing_75 : decode cX2_readThing 75 = .ok (.aload_n 0, 1) := by decide +kernel
theorem dX2_readThing_76 : decode cX2_readThing 76 = .ok (.iload_n 1, 1) := by decide +kernel
theorem dX2_readThing_77 : decode cX2_readThing 77 = .ok (.iconst 2, 1) := by decide +kernel
theorem dX2_readThing_78 : decode cX2_readThing 78 = .ok (.iconst 1, 1) := by decide +kernel
theorem dX2_readThing_79 : decode cX2_readThing 79 = .ok (.bipush 50, 2) := by decide +kernel
theorem dX2_readThing_81 : decode cX2_readThing 81 = .ok (.invokevirtual 63, 3) := by decide +kernel
theorem dX2_readThing_84 : decode cX2_readThing 84 = .ok (.aload_n 0, 1) := by decide +kernel
theorem dX2_readThing_85 : decode cX2_readThing 85 = .ok (.bipush 61, 2) := by decide +kernel
theorem dX2_readThing_87 : decode cX2_readThing 87 = .ok (.invokevirtual 53, 3) := by decide +kernel
theorem dX2_readThing_90 : decode cX2_readThing 90 = .ok (.aload_n 0, 1) := by decide +kernel
theorem dX2_readThing_91 : decode cX2_readThing 91 = .ok (.iload_n 1, 1) := by decide +kernel
theorem dX2_readThing_92 : decode cX2_readThing 92 = .ok (.iconst 3, 1) := by decide +kernel
theorem dX2_readThing_93 : decode cX2_readThing 93 = .ok (.iconst 0, 1) := by decide +kernel
theorem dX2_readThing_94 : decode cX2_readThing 94 = .ok (.bipush 99, 2) := by decide +kernel
theorem dX2_readThing_96 : decode cX2_readThing 96 = .ok (.invokevirtual 63, 3) := by decide +kernel
theorem dX2_readThing_99 : decode cX2_readThing 99 = .ok (.goto 117, 3) := by decide +kernel
theorem dX2_readThing_102 : decode cX2_readThing 102 = .ok (.aload_n 0, 1) := by decide +kernel
theorem dX2_readThing_103 : decode cX2_readThing 103 = .ok (.dup, 1) := by decide +kernel
theorem dX2_readThing_104 : decode cX2_readThing 104 = .ok (.getfield 39, 3) := by decide +kernel
theorem dX2_readThing_107 : decode cX2_readThing 107 = .ok (.iconst 1, 1) := by decide +kernel
theorem dX2_readThing_108 : decode cX2_readThing 108 = .ok (.iadd, 1) := by decide +kernel
theorem dX2_readThing_109 : decode cX2_readThing 109 = .ok (.putfield 39, 3) := by decide +kernel
theorem dX2_readThing_112 : decode cX2_readThing 112 = .ok (.aload_n 0, 1) := by decide +kernel
theorem dX2_readThing_113 : decode cX2_readThing 113 = .ok (.getfield 20, 3) := by decide +kernel
theorem dX2_readThing_116 : decode cX2_readThing 116 = .ok (.iload_n 1, 1) := by decide +kernel
theorem dX2_readThing_117 : decode cX2_readThing 117 = .ok (.iconst 0, 1) := by decide +kernel
theorem dX2_readThing_118 : decode cX2_readThing 118 = .ok (.iconst 1, 1) := by decide +kernel
theorem dX2_readThing_119 : decode cX2_readThing 119 = .ok (.invokevirtual 59, 3) := by decide +kernel
theorem dX2_readThing_122 : decode cX2_readThing 122 = .ok (.aload_n 0, 1) := by decide +kernel
theorem dX2_readThing_123 : decode cX2_readThing 123 = .ok (.iload_n 1, 1) := by decide +kernel
theorem dX2_readThing_124 : decode cX2_readThing 124 = .ok (.iconst 1, 1) := by decide +kernel
theorem dX2_readThing_125 : decode cX2_readThing 125 = .ok (.iconst 0, 1) := by decide +kernel
theorem dX2_readThing_126 : decode cX2_readThing 126 = .ok (.bipush 7, 2) := by decide +kernel
theorem dX2_readThing_128 : decode cX2_readThing 128 = .ok (.invokevirtual 63, 3) := by decide +kernel
theorem dX2_readThing_131 : decode cX2_readThing 131 = .ok (.aload_n 0, 1) := by decide +kernel
theorem dX2_readThing_132 : decode cX2_readThing 132 = .ok (.bipush 58, 2) := by decide +kernel
theorem dX2_readThing_134 : decode cX2_readThing 134 = .ok (.invokevirtual 53, 3) := by decide +kernel
theorem dX2_readThing_137 : decode cX2_readThing 137 = .ok (.aload_n 0, 1) := by decide +kernel
theorem dX2_readThing_138 : decode cX2_readThing 138 = .ok (.iload_n 1, 1) := by decide +kernel
theorem dX2_readThing_139 : decode cX2_readThing 139 = .ok (.iconst 2, 1) := by decide +kernel
theorem dX2_readThing_140 : decode cX2_readThing 140 = .ok (.iconst 0, 1) := by decide +kernel
theorem dX2_readThing_141 : decode cX2_readThing 141 = .ok (.bipush 19, 2) := by decide +kernel
theorem dX2_readThing_143 : decode cX2_readThing 143 = .ok (.invokevirtual 63, 3) := by decide +kernel
theorem dX2_readThing_146 : decode cX2_readThing 146 = .ok (.aload_n 0, 1) := by decide +kernel
theorem dX2_readThing_147 : decode cX2_readThing 147 = .ok (.bipush 61, 2) := by decide +kernel
theorem dX2_readThing_149 : decode cX2_readThing 149 = .ok (.invokevirtual 53, 3) := by decide +kernel
theorem dX2_readThing_152 : decode cX2_readThing 152 = .ok (.aload_n 0, 1) := by decide +kernel
theorem dX2_readThing_153 : decode cX2_readThing 153 = .ok (.iload_n 1, 1) := by decide +kernel
theorem dX2_readThing_154 : decode cX2_readThing 154 = .ok (.iconst 3, 1) := by decide +kernel
theorem dX2_readThing_155 : decode cX2_readThing 155 = .ok (.iconst 0, 1) := by decide +kernel
theorem dX2_readThing_156 : decode cX2_readThing 156 = .ok (.bipush 99, 2) := by decide +kernel
theorem dX2_readThing_158 : decode cX2_readThing 158 = .ok (.invokevirtual 63, 3) := by decide +kernel
theorem dX2_readThing_161 : decode cX2_readThing 161 = .ok (.aload_n 0, 1) := by decide +kernel
theorem dX2_readThing_162 : decode cX2_readThing 162 = .ok (.bipush 42, 2) := by decide +kernel
theorem dX2_readThing_164 : decode cX2_readThing 164 = .ok (.invokevirtual 53, 3) := by decide +kernel
theorem dX2_readThing_167 : decode cX2_readThing 167 = .ok (.aload_n 0, 1) := by decide +kernel
theorem dX2_readThing_168 : decode cX2_readThing 168 = .ok (.iload_n 1, 1) := by decide +kernel
theorem dX2_readThing_169 : decode cX2_readThing 169 = .ok (.iconst 4, 1) := by decide +kernel
theorem dX2_readThing_170 : decode cX2_readThing 170 = .ok (.iconst 1, 1) := by decide +kernel
theorem dX2_readThing_171 : decode cX2_readThing 171 = .ok (.bipush 99, 2) := by decide +kernel
theorem dX2_readThing_173 : decode cX2_readThing 173 = .ok (.invokevirtual 63, 3) := by decide +kernel
theorem dX2_readThing_176 : decode cX2_readThing 176 = .ok (.goto 40, 3) := by decide +kernel
theorem dX2_readThing_179 : decode cX2_readThing 179 = .ok (.aload_n 0, 1) := by decide +kernel
theorem dX2_readThing_180 : decode cX2_readThing 180 = .ok (.dup, 1) := by decide +kernel
theorem dX2_readThing_181 : decode cX2_readThing 181 = .ok (.getfield 39, 3) := by decide +kernel
theorem dX2_readThing_184 : decode cX2_readThing 184 = .ok (.iconst 1, 1) := by decide +kernel
theorem dX2_readThing_185 : decode cX2_readThing 185 = .ok (.iadd, 1) := by decide +kernel
theorem dX2_readThing_186 : decode cX2_readThing 186 = .ok (.putfield 39, 3) := by decide +kernel
theorem dX2_readThing_189 : decode cX2_readThing 189 = .ok (.aload_n 0, 1) := by decide +kernel
theorem dX2_readThing_190 : decode cX2_readThing 190 = .ok (.getfield 20, 3) := by decide +kernel
theorem dX2_readThing_193 : decode cX2_readThing 193 = .ok (.iload_n 1, 1) := by decide +kernel
theorem dX2_readThing_194 : decode cX2_readThing 194 = .ok (.iconst 0, 1) := by decide +kernel
theorem dX2_readThing_195 : decode cX2_readThing 195 = .ok (.iconst 2, 1) := by decide +kernel
theorem dX2_readThing_196 : decode cX2_readThing 196 = .ok (.invokevirtual 59, 3) := by decide +kernel
theorem dX2_readThing_199 : decode cX2_readThing 199 = .ok (.aload_n 0, 1) := by decide +kernel
theorem dX2_readThing_200 : decode cX2_readThing 200 = .ok (.iload_n 1, 1) := by decide +kernel
theorem dX2_readThing_201 : decode cX2_readThing 201 = .ok (.iconst 1, 1) := by decide +kernel
theorem dX2_readThing_202 : decode cX2_readThing 202 = .ok (.iconst 1, 1) := by decide +kernel
theorem dX2_readThing_203 : decode cX2_readThing 203 = .ok (.bipush 99, 2) := by decide +kernel
theorem dX2_readThing_205 : decode cX2_readThing 205 = .ok (.invokevirtual 63, 3) := by decide +kernel
theorem dX2_readThing_208 : decode cX2_readThing 208 = .ok (.goto 8, 3) := by decide +kernel
theorem dX2_readThing_211 : decode cX2_readThing 211 = .ok (.aload_n 0, 1) := by decide +kernel
theorem dX2_readThing_212 : decode cX2_readThing 212 = .ok (.iconst 1, 1) := by decide +kernel
theorem dX2_readThing_213 : decode cX2_readThing 213 = .ok (.putfield 42, 3) := by decide +kernel
theorem dX2_readThing_216 : decode cX2_readThing 216 = .ok (.return_, 1) := by decide +kernel
set_option maxRecDepth 20000 in
theorem ggX2_readNumber_X2_digitHere : GoodIn wsX2_readNumber wsX2_digitHere := goodIn_r _ [8, 9, 10, 11, 7, 12, 2, 13, 14, 1, 22, 23, 24, 25, 26] (by decide +kernel) (by decide +kernel)
set_option maxRecDepth 20000 in
theorem gX2_readNumber_X2_digitHere : GoodIn wsX2_readNumber (wsV RX2 67 RX2 yX2_digitHere wsX2_digitHere) := goodIn_app (goodIn_of _ (by decide +kernel)) ggX2_readNumber_X2_digitHere
set_option maxRecDepth 20000 in
theorem ggX2_readNumber_X4_put : GoodIn wsX2_readNumber wsX4_put := goodIn_r _ [19, 20, 21, 27, 28, 29] (by decide +kernel) (by decide +kernel)
set_option maxRecDepth 20000 in
theorem gX2_readNumber_X4_put : GoodIn wsX2_readNumber (wsV RX2 59 RX4 yX4_put wsX4_put) := goodIn_app (goodIn_of _ (by decide +kernel)) ggX2_readNumber_X4_put
theorem dX2_readNumber_0 : decode cX2_readNumber 0 = .ok (.aload_n 0, 1) := by decide +kernel
theorem dX2_readNumber_1 : decode cX2_readNumber 1 = .ok (.invokevirtual 67, 3) := by decide +kernel
theorem dX2_readNumber_4 : decode cX2_readNumber 4 = .ok (.istore 5, 2) := by decide +kernel
theorem dX2_readNumber_6 : decode cX2_readNumber 6 = .ok (.iload 5, 2) := by decide +kernel
theorem dX2_readNumber_8 : decode cX2_readNumber 8 = .ok (.iload_n 3, 1) := by decide +kernel
theorem dX2_readNumber_9 : decode cX2_readNumber 9 = .ok (.if_icmp .lt 10, 3) := by decide +kernel
theorem dX2_readNumber_12 : decode cX2_readNumber 12 = .ok (.iload 5, 2) := by decide +kernel
theorem dX2_readNumber_14 : decode cX2_readNumber 14 = .ok (.iload 4, 2) := by decide +kernel
theorem dX2_readNumber_16 : decode cX2_readNumber 16 = .ok (.if_icmp .le 9, 3) := by decide +kernel
theorem dX2_readNumber_19 : decode cX2_readNumber 19 = .ok (.aload_n 0, 1) := by decide +kernel
theorem dX2_readNumber_20 : decode cX2_readNumber 20 = .ok (.iconst 1, 1) := by decide +kernel
theorem dX2_readNumber_21 : decode cX2_readNumber 21 = .ok (.putfield 42, 3) := by decide +kernel
theorem dX2_readNumber_24 : decode cX2_readNumber 24 = .ok (.return_, 1) := by decide +kernel
theorem dX2_readNumber_25 : decode cX2_readNumber 25 = .ok (.aload_n 0, 1) := by decide +kernel
theorem dX2_readNumber_26 : decode cX2_readNumber 26 = .ok (.dup, 1) := by decide +kernel
theorem dX2_readNumber_27 : decode cX2_readNumber 27 = .ok (.getfield 39, 3) := by decide +kernel
theorem dX2_readNumber_30 : decode cX2_readNumber 30 = .ok (.iconst 1, 1) := by decide +kernel
theorem dX2_readNumber_31 : decode cX2_readNumber 31 = .ok (.iadd, 1) := by decide +kernel
theorem dX2_readNumber_32 : decode cX2_readNumber 32 = .ok (.putfield 39, 3) := by decide +kernel
theorem dX2_readNumber_35 : decode cX2_readNumber 35 = .ok (.aload_n 0, 1) := by decide +kernel
theorem dX2_readNumber_36 : decode cX2_readNumber 36 = .ok (.invokevirtual 67, 3) := by decide +kernel
theorem dX2_readNumber_39 : decode cX2_readNumber 39 = .ok (.istore 6, 2) := by decide +kernel
theorem dX2_readNumber_41 : decode cX2_readNumber 41 = .ok (.iload 5, 2) := by decide +kernel
theorem dX2_readNumber_43 : decode cX2_readNumber 43 = .ok (.ifCond .le 42, 3) := by decide +kernel
theorem dX2_readNumber_46 : decode cX2_readNumber 46 = .ok (.iload 6, 2) := by decide +kernel
theorem dX2_readNumber_48 : decode cX2_readNumber 48 = .ok (.iconst (-1), 1) := by decide +kernel
theorem dX2_readNumber_49 : decode cX2_readNumber 49 = .ok (.if_icmp .eq 36, 3) := by decide +kernel
theorem dX2_readNumber_52 : decode cX2_readNumber 52 = .ok (.iload 5, 2) := by decide +kernel
theorem dX2_readNumber_54 : decode cX2_readNumber 54 = .ok (.bipush 10, 2) := by decide +kernel
theorem dX2_readNumber_56 : decode cX2_readNumber 56 = .ok (.imul, 1) := by decide +kernel
theorem dX2_readNumber_57 : decode cX2_readNumber 57 = .ok (.iload 6, 2) := by decide +kernel
theorem dX2_readNumber_59 : decode cX2_readNumber 59 = .ok (.iadd, 1) := by decide +kernel
theorem dX2_readNumber_60 : decode cX2_readNumber 60 = .ok (.iload 4, 2) := by decide +kernel
theorem dX2_readNumber_62 : decode cX2_readNumber 62 = .ok (.if_icmp .gt 23, 3) := by decide +kernel
theorem dX2_readNumber_65 : decode cX2_readNumber 65 = .ok (.iload 5, 2) := by decide +kernel
theorem dX2_readNumber_67 : decode cX2_readNumber 67 = .ok (.bipush 10, 2) := by decide +kernel
theorem dX2_readNumber_69 : decode cX2_readNumber 69 = .ok (.imul, 1) := by decide +kernel
theorem dX2_readNumber_70 : decode cX2_readNumber 70 = .ok (.iload 6, 2) := by decide +kernel
theorem dX2_readNumber_72 : decode cX2_readNumber 72 = .ok (.iadd, 1) := by decide +kernel
theorem dX2_readNumber_73 : decode cX2_readNumber 73 = .ok (.istore 5, 2) := by decide +kernel
theorem dX2_readNumber_75 : decode cX2_readNumber 75 = .ok (.aload_n 0, 1) := by decide +kernel
theorem dX2_readNumber_76 : decode cX2_readNumber 76 = .ok (.dup, 1) := by decide +kernel
theorem dX2_readNumber_77 : decode cX2_readNumber 77 = .ok (.getfield 39, 3) := by decide +kernel
theorem dX2_readNumber_80 : decode cX2_readNumber 80 = .ok (.iconst 1, 1) := by decide +kernel
theorem dX2_readNumber_81 : decode cX2_readNumber 81 = .ok (.iadd, 1) := by decide +kernel
theorem dX2_readNumber_82 : decode cX2_readNumber 82 = .ok (.putfield 39, 3) := by decide +kernel
theorem dX2_readNumber_85 : decode cX2_readNumber 85 = .ok (.aload_n 0, 1) := by decide +kernel
theorem dX2_readNumber_86 : decode cX2_readNumber 86 = .ok (.getfield 20, 3) := by decide +kernel
theorem dX2_readNumber_89 : decode cX2_readNumber 89 = .ok (.iload_n 1, 1) := by decide +kernel
theorem dX2_readNumber_90 : decode cX2_readNumber 90 = .ok (.iload_n 2, 1) := by decide +kernel
theorem dX2_readNumber_91 : decode cX2_readNumber 91 = .ok (.iload 5, 2) := by decide +kernel
theorem dX2_readNumber_93 : decode cX2_readNumber 93 = .ok (.invokevirtual 59, 3) := by decide +kernel
theorem dX2_readNumber_96 : decode cX2_readNumber 96 = .ok (.return_, 1) := by decide +kernel
set_option maxRecDepth 20000 in
theorem ggX2_expect_X2_here : GoodIn wsX2_expect wsX2_here := goodIn_r _ [7, 1, 8, 9, 2, 10, 11, 12, 13, 14] (by decide +kernel) (by decide +kernel)
set_option maxRecDepth 20000 in
theorem gX2_expect_X2_here : GoodIn wsX2_expect (wsV RX2 56 RX2 yX2_here wsX2_here) := goodIn_app (goodIn_of _ (by decide +kernel)) ggX2_expect_X2_here
theorem dX2_expect_0 : decode cX2_expect 0 = .ok (.aload_n 0, 1) := by decide +kernel
theorem dX2_expect_1 : decode cX2_expect 1 = .ok (.invokevirtual 56, 3) := by decide +kernel
theorem dX2_expect_4 : decode cX2_expect 4 = .ok (.iload_n 1, 1) := by decide +kernel
theorem dX2_expect_5 : decode cX2_expect 5 = .ok (.if_icmp .ne 16, 3) := by decide +kernel
theorem dX2_expect_8 : decode cX2_expect 8 = .ok (.aload_n 0, 1) := by decide +kernel
theorem dX2_expect_9 : decode cX2_expect 9 = .ok (.dup, 1) := by decide +kernel
theorem dX2_expect_10 : decode cX2_expect 10 = .ok (.getfield 39, 3) := by decide +kernel
theorem dX2_expect_13 : decode cX2_expect 13 = .ok (.iconst 1, 1) := by decide +kernel
theorem dX2_expect_14 : decode cX2_expect 14 = .ok (.iadd, 1) := by decide +kernel
theorem dX2_expect_15 : decode cX2_expect 15 = .ok (.putfield 39, 3) := by decide +kernel
theorem dX2_expect_18 : decode cX2_expect 18 = .ok (.goto 8, 3) := by decide +kernel
theorem dX2_expect_21 : decode cX2_expect 21 = .ok (.aload_n 0, 1) := by decide +kernel
theorem dX2_expect_22 : decode cX2_expect 22 = .ok (.iconst 1, 1) := by decide +kernel
theorem dX2_expect_23 : decode cX2_expect 23 = .ok (.putfield 42, 3) := by decide +kernel
theorem dX2_expect_26 : decode cX2_expect 26 = .ok (.return_, 1) := by decide +kernel
set_option maxRecDepth 20000 in
theorem ggX2_digitHere_X2_here : GoodIn wsX2_digitHere wsX2_here := goodIn_r _ [5, 6, 7, 8, 9, 10, 11, 12, 13, 14] (by decide +kernel) (by decide +kernel)
set_option maxRecDepth 20000 in
theorem gX2_digitHere_X2_here : GoodIn wsX2_digitHere (wsV RX2 56 RX2 yX2_here wsX2_here) := goodIn_app (goodIn_of _ (by decide +kernel)) ggX2_digitHere_X2_here
theorem dX2_digitHere_0 : decode cX2_digitHere 0 = .ok (.aload_n 0, 1) := by decide +kernel
theorem dX2_digitHere_1 : decode cX2_digitHere 1 = .ok (.invokevirtual 56, 3) := by decide +kernel
theorem dX2_digitHere_4 : decode cX2_digitHere 4 = .ok (.istore_n 1, 1) := by decide +kernel
theorem dX2_digitHere_5 : decode cX2_digitHere 5 = .ok (.iload_n 1, 1) := by decide +kernel
theorem dX2_digitHere_6 : decode cX2_digitHere 6 = .ok (.bipush 48, 2) := by decide +kernel
theorem dX2_digitHere_8 : decode cX2_digitHere 8 = .ok (.if_icmp .lt 16, 3) := by decide +kernel
theorem dX2_digitHere_11 : decode cX2_digitHere 11 = .ok (.iload_n 1, 1) := by decide +kernel
theorem dX2_digitHere_12 : decode cX2_digitHere 12 = .ok (.bipush 57, 2) := by decide +kernel
theorem dX2_digitHere_14 : decode cX2_digitHere 14 = .ok (.if_icmp .gt 10, 3) := by decide +kernel
theorem dX2_digitHere_17 : decode cX2_digitHere 17 = .ok (.iload_n 1, 1) := by decide +kernel
theorem dX2_digitHere_18 : decode cX2_digitHere 18 = .ok (.bipush 48, 2) := by decide +kernel
theorem dX2_digitHere_20 : decode cX2_digitHere 20 = .ok (.isub, 1) := by decide +kernel
theorem dX2_digitHere_21 : decode cX2_digitHere 21 = .ok (.goto 4, 3) := by decide +kernel
theorem dX2_digitHere_24 : decode cX2_digitHere 24 = .ok (.iconst (-1), 1) := by decide +kernel
theorem dX2_digitHere_25 : decode cX2_digitHere 25 = .ok (.ireturn, 1) := by decide +kernel
theorem dX2_here_0 : decode cX2_here 0 = .ok (.aload_n 0, 1) := by decide +kernel
theorem dX2_here_1 : decode cX2_here 1 = .ok (.getfield 39, 3) := by decide +kernel
theorem dX2_here_4 : decode cX2_here 4 = .ok (.ifCond .lt 30, 3) := by decide +kernel
theorem dX2_here_7 : decode cX2_here 7 = .ok (.aload_n 0, 1) := by decide +kernel
theorem dX2_here_8 : decode cX2_here 8 = .ok (.getfield 39, 3) := by decide +kernel
theorem dX2_here_11 : decode cX2_here 11 = .ok (.aload_n 0, 1) := by decide +kernel
theorem dX2_here_12 : decode cX2_here 12 = .ok (.getfield 24, 3) := by decide +kernel
theorem dX2_here_15 : decode cX2_here 15 = .ok (.if_icmp .ge 19, 3) := by decide +kernel
theorem dX2_here_18 : decode cX2_here 18 = .ok (.aload_n 0, 1) := by decide +kernel
theorem dX2_here_19 : decode cX2_here 19 = .ok (.getfield 39, 3) := by decide +kernel
theorem dX2_here_22 : decode cX2_here 22 = .ok (.aload_n 0, 1) := by decide +kernel
theorem dX2_here_23 : decode cX2_here 23 = .ok (.getfield 9, 3) := by decide +kernel
theorem dX2_here_26 : decode cX2_here 26 = .ok (.arraylength, 1) := by decide +kernel
theorem dX2_here_27 : decode cX2_here 27 = .ok (.if_icmp .ge 7, 3) := by decide +kernel
theorem dX2_here_30 : decode cX2_here 30 = .ok (.iconst 1, 1) := by decide +kernel
theorem dX2_here_31 : decode cX2_here 31 = .ok (.goto 4, 3) := by decide +kernel
theorem dX2_here_34 : decode cX2_here 34 = .ok (.iconst 0, 1) := by decide +kernel
theorem dX2_here_35 : decode cX2_here 35 = .ok (.istore_n 1, 1) := by decide +kernel
theorem dX2_here_36 : decode cX2_here 36 = .ok (.iload_n 1, 1) := by decide +kernel
theorem dX2_here_37 : decode cX2_here 37 = .ok (.ifCond .eq 22, 3) := by decide +kernel
theorem dX2_here_40 : decode cX2_here 40 = .ok (.aload_n 0, 1) := by decide +kernel
theorem dX2_here_41 : decode cX2_here 41 = .ok (.getfield 42, 3) := by decide +kernel
theorem dX2_here_44 : decode cX2_here 44 = .ok (.ifCond .ne 15, 3) := by decide +kernel
theorem dX2_here_47 : decode cX2_here 47 = .ok (.aload_n 0, 1) := by decide +kernel
theorem dX2_here_48 : decode cX2_here 48 = .ok (.getfield 9, 3) := by decide +kernel
theorem dX2_here_51 : decode cX2_here 51 = .ok (.aload_n 0, 1) := by decide +kernel
theorem dX2_here_52 : decode cX2_here 52 = .ok (.getfield 39, 3) := by decide +kernel
theorem dX2_here_55 : decode cX2_here 55 = .ok (.caload, 1) := by decide +kernel
theorem dX2_here_56 : decode cX2_here 56 = .ok (.goto 4, 3) := by decide +kernel
theorem dX2_here_59 : decode cX2_here 59 = .ok (.iconst (-1), 1) := by decide +kernel
theorem dX2_here_60 : decode cX2_here 60 = .ok (.ireturn, 1) := by decide +kernel
theorem dX3_init_0 : decode cX3_init 0 = .ok (.aload_n 0, 1) := by decide +kernel
theorem dX3_init_1 : decode cX3_init 1 = .ok (.invokespecial 3, 3) := by decide +kernel
theorem dX3_init_4 : decode cX3_init 4 = .ok (.aload_n 0, 1) := by decide +kernel
theorem dX3_init_5 : decode cX3_init 5 = .ok (.bipush 40, 2) := by decide +kernel
theorem dX3_init_7 : decode cX3_init 7 = .ok (.newarray .int, 2) := by decide +kernel
theorem dX3_init_9 : decode cX3_init 9 = .ok (.putfield 9, 3) := by decide +kernel
theorem dX3_init_12 : decode cX3_init 12 = .ok (.return_, 1) := by decide +kernel
theorem dX3_length_0 : decode cX3_length 0 = .ok (.aload_n 0, 1) := by decide +kernel
theorem dX3_length_1 : decode cX3_length 1 = .ok (.getfield 15, 3) := by decide +kernel
theorem dX3_length_4 : decode cX3_length 4 = .ok (.ireturn, 1) := by decide +kernel
theorem dX3_at_0 : decode cX3_at 0 = .ok (.iload_n 1, 1) := by decide +kernel
theorem dX3_at_1 : decode cX3_at 1 = .ok (.ifCond .lt 11, 3) := by decide +kernel
theorem dX3_at_4 : decode cX3_at 4 = .ok (.iload_n 1, 1) := by decide +kernel
theorem dX3_at_5 : decode cX3_at 5 = .ok (.aload_n 0, 1) := by decide +kernel
theorem dX3_at_6 : decode cX3_at 6 = .ok (.getfield 15, 3) := by decide +kernel
theorem dX3_at_9 : decode cX3_at 9 = .ok (.if_icmp .lt 6, 3) := by decide +kernel
theorem dX3_at_12 : decode cX3_at 12 = .ok (.bipush (-5), 2) := by decide +kernel
theorem dX3_at_14 : decode cX3_at 14 = .ok (.ireturn, 1) := by decide +kernel
theorem dX3_at_15 : decode cX3_at 15 = .ok (.aload_n 0, 1) := by decide +kernel
theorem dX3_at_16 : decode cX3_at 16 = .ok (.getfield 19, 3) := by decide +kernel
theorem dX3_at_19 : decode cX3_at 19 = .ok (.iload_n 1, 1) := by decide +kernel
theorem dX3_at_20 : decode cX3_at 20 = .ok (.iadd, 1) := by decide +kernel
theorem dX3_at_21 : decode cX3_at 21 = .ok (.bipush 40, 2) := by decide +kernel
theorem dX3_at_23 : decode cX3_at 23 = .ok (.irem, 1) := by decide +kernel
theorem dX3_at_24 : decode cX3_at 24 = .ok (.istore_n 2, 1) := by decide +kernel
theorem dX3_at_25 : decode cX3_at 25 = .ok (.iload_n 2, 1) := by decide +kernel
theorem dX3_at_26 : decode cX3_at 26 = .ok (.ifCond .lt 21, 3) := by decide +kernel
theorem dX3_at_29 : decode cX3_at 29 = .ok (.iload_n 2, 1) := by decide +kernel
theorem dX3_at_30 : decode cX3_at 30 = .ok (.aload_n 0, 1) := by decide +kernel
theorem dX3_at_31 : decode cX3_at 31 = .ok (.getfield 9, 3) := by decide +kernel
theorem dX3_at_34 : decode cX3_at 34 = .ok (.arraylength, 1) := by decide +kernel
theorem dX3_at_35 : decode cX3_at 35 = .ok (.if_icmp .ge 12, 3) := by decide +kernel
theorem dX3_at_38 : decode cX3_at 38 = .ok (.aload_n 0, 1) := by decide +kernel
theorem dX3_at_39 : decode cX3_at 39 = .ok (.getfield 9, 3) := by decide +kernel
theorem dX3_at_42 : decode cX3_at 42 = .ok (.iload_n 2, 1) := by decide +kernel
theorem dX3_at_43 : decode cX3_at 43 = .ok (.iaload, 1) := by decide +kernel
theorem dX3_at_44 : decode cX3_at 44 = .ok (.goto 5, 3) := by decide +kernel
theorem dX3_at_47 : decode cX3_at 47 = .ok (.bipush (-5), 2) := by decide +kernel
theorem dX3_at_49 : decode cX3_at 49 = .ok (.ireturn, 1) := by decide +kernel
set_option maxRecDepth 20000 in
theorem ggX3_placeOf_X3_at : GoodIn wsX3_placeOf wsX3_at := goodIn_r _ [6, 1, 7, 8, 9, 10, 11] (by decide +kernel) (by decide +kernel)
set_option maxRecDepth 20000 in
theorem gX3_placeOf_X3_at : GoodIn wsX3_placeOf (wsV RX3 22 RX3 yX3_at wsX3_at) := goodIn_app (goodIn_of _ (by decide +kernel)) ggX3_placeOf_X3_at
theorem dX3_placeOf_0 : decode cX3_placeOf 0 = .ok (.iconst 0, 1) := by decide +kernel
theorem dX3_placeOf_1 : decode cX3_placeOf 1 = .ok (.istore_n 2, 1) := by decide +kernel
theorem dX3_placeOf_2 : decode cX3_placeOf 2 = .ok (.iload_n 2, 1) := by decide +kernel
theorem dX3_placeOf_3 : decode cX3_placeOf 3 = .ok (.aload_n 0, 1) := by decide +kernel
theorem dX3_placeOf_4 : decode cX3_placeOf 4 = .ok (.getfield 15, 3) := by decide +kernel
theorem dX3_placeOf_7 : decode cX3_placeOf 7 = .ok (.if_icmp .ge 20, 3) := by decide +kernel
theorem dX3_placeOf_10 : decode cX3_placeOf 10 = .ok (.aload_n 0, 1) := by decide +kernel
theorem dX3_placeOf_11 : decode cX3_placeOf 11 = .ok (.iload_n 2, 1) := by decide +kernel
theorem dX3_placeOf_12 : decode cX3_placeOf 12 = .ok (.invokevirtual 22, 3) := by decide +kernel
theorem dX3_placeOf_15 : decode cX3_placeOf 15 = .ok (.iload_n 1, 1) := by decide +kernel
theorem dX3_placeOf_16 : decode cX3_placeOf 16 = .ok (.if_icmp .ne 5, 3) := by decide +kernel
theorem dX3_placeOf_19 : decode cX3_placeOf 19 = .ok (.iload_n 2, 1) := by decide +kernel
theorem dX3_placeOf_20 : decode cX3_placeOf 20 = .ok (.ireturn, 1) := by decide +kernel
theorem dX3_placeOf_21 : decode cX3_placeOf 21 = .ok (.iinc 2 1, 3) := by decide +kernel
theorem dX3_placeOf_24 : decode cX3_placeOf 24 = .ok (.goto (-22), 3) := by decide +kernel
theorem dX3_placeOf_27 : decode cX3_placeOf 27 = .ok (.bipush (-5), 2) := by decide +kernel
theorem dX3_placeOf_29 : decode cX3_placeOf 29 = .ok (.ireturn, 1) := by decide +kernel
theorem dX3_addLast_0 : decode cX3_addLast 0 = .ok (.aload_n 0, 1) := by decide +kernel
theorem dX3_addLast_1 : decode cX3_addLast 1 = .ok (.getfield 19, 3) := by decide +kernel
theorem dX3_addLast_4 : decode cX3_addLast 4 = .ok (.aload_n 0, 1) := by decide +kernel
theorem dX3_addLast_5 : decode cX3_addLast 5 = .ok (.getfield 15, 3) := by decide +kernel
theorem dX3_addLast_8 : decode cX3_addLast 8 = .ok (.iadd, 1) := by decide +kernel
theorem dX3_addLast_9 : decode cX3_addLast 9 = .ok (.bipush 40, 2) := by decide +kernel
theorem dX3_addLast_11 : decode cX3_addLast 11 = .ok (.irem, 1) := by decide +kernel
theorem dX3_addLast_12 : decode cX3_addLast 12 = .ok (.istore_n 2, 1) := by decide +kernel
theorem dX3_addLast_13 : decode cX3_addLast 13 = .ok (.aload_n 0, 1) := by decide +kernel
theorem dX3_addLast_14 : decode cX3_addLast 14 = .ok (.getfield 15, 3) := by decide +kernel
theorem dX3_addLast_17 : decode cX3_addLast 17 = .ok (.bipush 40, 2) := by decide +kernel
theorem dX3_addLast_19 : decode cX3_addLast 19 = .ok (.if_icmp .ge 33, 3) := by decide +kernel
theorem dX3_addLast_22 : decode cX3_addLast 22 = .ok (.iload_n 2, 1) := by decide +kernel
theorem dX3_addLast_23 : decode cX3_addLast 23 = .ok (.ifCond .lt 29, 3) := by decide +kernel
theorem dX3_addLast_26 : decode cX3_addLast 26 = .ok (.iload_n 2, 1) := by decide +kernel
theorem dX3_addLast_27 : decode cX3_addLast 27 = .ok (.aload_n 0, 1) := by decide +kernel
theorem dX3_addLast_28 : decode cX3_addLast 28 = .ok (.getfield 9, 3) := by decide +kernel
theorem dX3_addLast_31 : decode cX3_addLast 31 = .ok (.arraylength, 1) := by decide +kernel
theorem dX3_addLast_32 : decode cX3_addLast 32 = .ok (.if_icmp .ge 20, 3) := by decide +kernel
theorem dX3_addLast_35 : decode cX3_addLast 35 = .ok (.aload_n 0, 1) := by decide +kernel
theorem dX3_addLast_36 : decode cX3_addLast 36 = .ok (.getfield 9, 3) := by decide +kernel
theorem dX3_addLast_39 : decode cX3_addLast 39 = .ok (.iload_n 2, 1) := by decide +kernel
theorem dX3_addLast_40 : decode cX3_addLast 40 = .ok (.iload_n 1, 1) := by decide +kernel
theorem dX3_addLast_41 : decode cX3_addLast 41 = .ok (.iastore, 1) := by decide +kernel
theorem dX3_addLast_42 : decode cX3_addLast 42 = .ok (.aload_n 0, 1) := by decide +kernel
theorem dX3_addLast_43 : decode cX3_addLast 43 = .ok (.dup, 1) := by decide +kernel
theorem dX3_addLast_44 : decode cX3_addLast 44 = .ok (.getfield 15, 3) := by decide +kernel
theorem dX3_addLast_47 : decode cX3_addLast 47 = .ok (.iconst 1, 1) := by decide +kernel
theorem dX3_addLast_48 : decode cX3_addLast 48 = .ok (.iadd, 1) := by decide +kernel
theorem dX3_addLast_49 : decode cX3_addLast 49 = .ok (.putfield 15, 3) := by decide +kernel
theorem dX3_addLast_52 : decode cX3_addLast 52 = .ok (.return_, 1) := by decide +kernel
set_option maxRecDepth 20000 in
theorem ggX3_takeFirst_X3_at : GoodIn wsX3_takeFirst wsX3_at := goodIn_r _ [7, 1, 2, 8, 9, 10, 11] (by decide +kernel) (by decide +kernel)
set_option maxRecDepth 20000 in
theorem gX3_takeFirst_X3_at : GoodIn wsX3_takeFirst (wsV RX3 22 RX3 yX3_at wsX3_at) := goodIn_app (goodIn_of _ (by decide +kernel)) ggX3_takeFirst_X3_at
theorem dX3_takeFirst_0 : decode cX3_takeFirst 0 = .ok (.aload_n 0, 1) := by decide +kernel
theorem dX3_takeFirst_1 : decode cX3_takeFirst 1 = .ok (.iconst 0, 1) := by decide +kernel
theorem dX3_takeFirst_2 : decode cX3_takeFirst 2 = .ok (.invokevirtual 22, 3) := by decide +kernel
theorem dX3_takeFirst_5 : decode cX3_takeFirst 5 = .ok (.istore_n 1, 1) := by decide +kernel
theorem dX3_takeFirst_6 : decode cX3_takeFirst 6 = .ok (.aload_n 0, 1) := by decide +kernel
theorem dX3_takeFirst_7 : decode cX3_takeFirst 7 = .ok (.getfield 15, 3) := by decide +kernel
theorem dX3_takeFirst_10 : decode cX3_takeFirst 10 = .ok (.ifCond .le 26, 3) := by decide +kernel
theorem dX3_takeFirst_13 : decode cX3_takeFirst 13 = .ok (.aload_n 0, 1) := by decide +kernel
theorem dX3_takeFirst_14 : decode cX3_takeFirst 14 = .ok (.aload_n 0, 1) := by decide +kernel
theorem dX3_takeFirst_15 : decode cX3_takeFirst 15 = .ok (.getfield 19, 3) := by decide +kernel
theorem dX3_takeFirst_18 : decode cX3_takeFirst 18 = .ok (.iconst 1, 1) := by decide +kernel
theorem dX3_takeFirst_19 : decode cX3_takeFirst 19 = .ok (.iadd, 1) := by decide +kernel
theorem dX3_takeFirst_20 : decode cX3_takeFirst 20 = .ok (.bipush 40, 2) := by decide +kernel
theorem dX3_takeFirst_22 : decode cX3_takeFirst 22 = .ok (.irem, 1) := by decide +kernel
theorem dX3_takeFirst_23 : decode cX3_takeFirst 23 = .ok (.putfield 19, 3) := by decide +kernel
theorem dX3_takeFirst_26 : decode cX3_takeFirst 26 = .ok (.aload_n 0, 1) := by decide +kernel
theorem dX3_takeFirst_27 : decode cX3_takeFirst 27 = .ok (.dup, 1) := by decide +kernel
theorem dX3_takeFirst_28 : decode cX3_takeFirst 28 = .ok (.getfield 15, 3) := by decide +kernel
theorem dX3_takeFirst_31 : decode cX3_takeFirst 31 = .ok (.iconst 1, 1) := by decide +kernel
theorem dX3_takeFirst_32 : decode cX3_takeFirst 32 = .ok (.isub, 1) := by decide +kernel
theorem dX3_takeFirst_33 : decode cX3_takeFirst 33 = .ok (.putfield 15, 3) := by decide +kernel
theorem dX3_takeFirst_36 : decode cX3_takeFirst 36 = .ok (.iload_n 1, 1) := by decide +kernel
theorem dX3_takeFirst_37 : decode cX3_takeFirst 37 = .ok (.ireturn, 1) := by decide +kernel
theorem dX3_copyFrom_0 : decode cX3_copyFrom 0 = .ok (.aload_n 0, 1) := by decide +kernel
theorem dX3_copyFrom_1 : decode cX3_copyFrom 1 = .ok (.aload_n 1, 1) := by decide +kernel
theorem dX3_copyFrom_2 : decode cX3_copyFrom 2 = .ok (.getfield 19, 3) := by decide +kernel
theorem dX3_copyFrom_5 : decode cX3_copyFrom 5 = .ok (.putfield 19, 3) := by decide +kernel
theorem dX3_copyFrom_8 : decode cX3_copyFrom 8 = .ok (.aload_n 0, 1) := by decide +kernel
theorem dX3_copyFrom_9 : decode cX3_copyFrom 9 = .ok (.aload_n 1, 1) := by decide +kernel
theorem dX3_copyFrom_10 : decode cX3_copyFrom 10 = .ok (.getfield 15, 3) := by decide +kernel
theorem dX3_copyFrom_13 : decode cX3_copyFrom 13 = .ok (.putfield 15, 3) := by decide +kernel
theorem dX3_copyFrom_16 : decode cX3_copyFrom 16 = .ok (.aload_n 1, 1) := by decide +kernel
theorem dX3_copyFrom_17 : decode cX3_copyFrom 17 = .ok (.getfield 9, 3) := by decide +kernel
theorem dX3_copyFrom_20 : decode cX3_copyFrom 20 = .ok (.iconst 0, 1) := by decide +kernel
theorem dX3_copyFrom_21 : decode cX3_copyFrom 21 = .ok (.aload_n 0, 1) := by decide +kernel
theorem dX3_copyFrom_22 : decode cX3_copyFrom 22 = .ok (.getfield 9, 3) := by decide +kernel
theorem dX3_copyFrom_25 : decode cX3_copyFrom 25 = .ok (.iconst 0, 1) := by decide +kernel
theorem dX3_copyFrom_26 : decode cX3_copyFrom 26 = .ok (.aload_n 0, 1) := by decide +kernel
theorem dX3_copyFrom_27 : decode cX3_copyFrom 27 = .ok (.getfield 9, 3) := by decide +kernel
theorem dX3_copyFrom_30 : decode cX3_copyFrom 30 = .ok (.arraylength, 1) := by decide +kernel
theorem dX3_copyFrom_31 : decode cX3_copyFrom 31 = .ok (.aload_n 1, 1) := by decide +kernel
theorem dX3_copyFrom_32 : decode cX3_copyFrom 32 = .ok (.getfield 9, 3) := by decide +kernel
theorem dX3_copyFrom_35 : decode cX3_copyFrom 35 = .ok (.arraylength, 1) := by decide +kernel
theorem dX3_copyFrom_36 : decode cX3_copyFrom 36 = .ok (.invokestatic 26, 3) := by decide +kernel
theorem dX3_copyFrom_39 : decode cX3_copyFrom 39 = .ok (.invokestatic 32, 3) := by decide +kernel
theorem dX3_copyFrom_42 : decode cX3_copyFrom 42 = .ok (.return_, 1) := by decide +kernel
theorem dX4_init_0 : decode cX4_init 0 = .ok (.aload_n 0, 1) := by decide +kernel
theorem dX4_init_1 : decode cX4_init 1 = .ok (.invokespecial 3, 3) := by decide +kernel
theorem dX4_init_4 : decode cX4_init 4 = .ok (.aload_n 0, 1) := by decide +kernel
theorem dX4_init_5 : decode cX4_init 5 = .ok (.aload_n 1, 1) := by decide +kernel
theorem dX4_init_6 : decode cX4_init 6 = .ok (.putfield 9, 3) := by decide +kernel
theorem dX4_init_9 : decode cX4_init 9 = .ok (.aload_n 0, 1) := by decide +kernel
theorem dX4_init_10 : decode cX4_init 10 = .ok (.iload_n 2, 1) := by decide +kernel
theorem dX4_init_11 : decode cX4_init 11 = .ok (.putfield 15, 3) := by decide +kernel
theorem dX4_init_14 : decode cX4_init 14 = .ok (.return_, 1) := by decide +kernel
theorem dX4_rows_0 : decode cX4_rows 0 = .ok (.aload_n 0, 1) := by decide +kernel
theorem dX4_rows_1 : decode cX4_rows 1 = .ok (.getfield 19, 3) := by decide +kernel
theorem dX4_rows_4 : decode cX4_rows 4 = .ok (.ireturn, 1) := by decide +kernel
theorem dX4_has_0 : decode cX4_has 0 = .ok (.iload_n 1, 1) := by decide +kernel
theorem dX4_has_1 : decode cX4_has 1 = .ok (.ifCond .lt 15, 3) := by decide +kernel
theorem dX4_has_4 : decode cX4_has 4 = .ok (.iload_n 1, 1) := by decide +kernel
theorem dX4_has_5 : decode cX4_has 5 = .ok (.aload_n 0, 1) := by decide +kernel
theorem dX4_has_6 : decode cX4_has 6 = .ok (.getfield 19, 3) := by decide +kernel
theorem dX4_has_9 : decode cX4_has 9 = .ok (.if_icmp .ge 7, 3) := by decide +kernel
theorem dX4_has_12 : decode cX4_has 12 = .ok (.iconst 1, 1) := by decide +kernel
theorem dX4_has_13 : decode cX4_has 13 = .ok (.goto 4, 3) := by decide +kernel
theorem dX4_has_16 : decode cX4_has 16 = .ok (.iconst 0, 1) := by decide +kernel
theorem dX4_has_17 : decode cX4_has 17 = .ok (.ireturn, 1) := by decide +kernel
theorem dX4_addRow_0 : decode cX4_addRow 0 = .ok (.aload_n 0, 1) := by decide +kernel
theorem dX4_addRow_1 : decode cX4_addRow 1 = .ok (.dup, 1) := by decide +kernel
theorem dX4_addRow_2 : decode cX4_addRow 2 = .ok (.getfield 19, 3) := by decide +kernel
theorem dX4_addRow_5 : decode cX4_addRow 5 = .ok (.iconst 1, 1) := by decide +kernel
theorem dX4_addRow_6 : decode cX4_addRow 6 = .ok (.iadd, 1) := by decide +kernel
theorem dX4_addRow_7 : decode cX4_addRow 7 = .ok (.putfield 19, 3) := by decide +kernel
theorem dX4_addRow_10 : decode cX4_addRow 10 = .ok (.aload_n 0, 1) := by decide +kernel
theorem dX4_addRow_11 : decode cX4_addRow 11 = .ok (.getfield 19, 3) := by decide +kernel
theorem dX4_addRow_14 : decode cX4_addRow 14 = .ok (.iconst 1, 1) := by decide +kernel
theorem dX4_addRow_15 : decode cX4_addRow 15 = .ok (.isub, 1) := by decide +kernel
theorem dX4_addRow_16 : decode cX4_addRow 16 = .ok (.ireturn, 1) := by decide +kernel
theorem dX4_dropRows_0 : decode cX4_dropRows 0 = .ok (.aload_n 0, 1) := by decide +kernel
theorem dX4_dropRows_1 : decode cX4_dropRows 1 = .ok (.iconst 0, 1) := by decide +kernel
theorem dX4_dropRows_2 : decode cX4_dropRows 2 = .ok (.putfield 19, 3) := by decide +kernel
theorem dX4_dropRows_5 : decode cX4_dropRows 5 = .ok (.return_, 1) := by decide +kernel
theorem dX4_get_0 : decode cX4_get 0 = .ok (.iload_n 1, 1) := by decide +kernel
theorem dX4_get_1 : decode cX4_get 1 = .ok (.aload_n 0, 1) := by decide +kernel
theorem dX4_get_2 : decode cX4_get 2 = .ok (.getfield 15, 3) := by decide +kernel
theorem dX4_get_5 : decode cX4_get 5 = .ok (.imul, 1) := by decide +kernel
theorem dX4_get_6 : decode cX4_get 6 = .ok (.iload_n 2, 1) := by decide +kernel
theorem dX4_get_7 : decode cX4_get 7 = .ok (.iadd, 1) := by decide +kernel
theorem dX4_get_8 : decode cX4_get 8 = .ok (.istore_n 3, 1) := by decide +kernel
theorem dX4_get_9 : decode cX4_get 9 = .ok (.iload_n 3, 1) := by decide +kernel
theorem dX4_get_10 : decode cX4_get 10 = .ok (.ifCond .lt 21, 3) := by decide +kernel
theorem dX4_get_13 : decode cX4_get 13 = .ok (.iload_n 3, 1) := by decide +kernel
theorem dX4_get_14 : decode cX4_get 14 = .ok (.aload_n 0, 1) := by decide +kernel
theorem dX4_get_15 : decode cX4_get 15 = .ok (.getfield 9, 3) := by decide +kernel
theorem dX4_get_18 : decode cX4_get 18 = .ok (.arraylength, 1) := by decide +kernel
theorem dX4_get_19 : decode cX4_get 19 = .ok (.if_icmp .ge 12, 3) := by decide +kernel
theorem dX4_get_22 : decode cX4_get 22 = .ok (.aload_n 0, 1) := by decide +kernel
theorem dX4_get_23 : decode cX4_get 23 = .ok (.getfield 9, 3) := by decide +kernel
theorem dX4_get_26 : decode cX4_get 26 = .ok (.iload_n 3, 1) := by decide +kernel
theorem dX4_get_27 : decode cX4_get 27 = .ok (.iaload, 1) := by decide +kernel
theorem dX4_get_28 : decode cX4_get 28 = .ok (.goto 4, 3) := by decide +kernel
theorem dX4_get_31 : decode cX4_get 31 = .ok (.iconst 0, 1) := by decide +kernel
theorem dX4_get_32 : decode cX4_get 32 = .ok (.ireturn, 1) := by decide +kernel
theorem dX4_put_0 : decode cX4_put 0 = .ok (.iload_n 1, 1) := by decide +kernel
theorem dX4_put_1 : decode cX4_put 1 = .ok (.aload_n 0, 1) := by decide +kernel
theorem dX4_put_2 : decode cX4_put 2 = .ok (.getfield 15, 3) := by decide +kernel
theorem dX4_put_5 : decode cX4_put 5 = .ok (.imul, 1) := by decide +kernel
theorem dX4_put_6 : decode cX4_put 6 = .ok (.iload_n 2, 1) := by decide +kernel
theorem dX4_put_7 : decode cX4_put 7 = .ok (.iadd, 1) := by decide +kernel
theorem dX4_put_8 : decode cX4_put 8 = .ok (.istore 4, 2) := by decide +kernel
theorem dX4_put_10 : decode cX4_put 10 = .ok (.iload 4, 2) := by decide +kernel
theorem dX4_put_12 : decode cX4_put 12 = .ok (.ifCond .lt 21, 3) := by decide +kernel
theorem dX4_put_15 : decode cX4_put 15 = .ok (.iload 4, 2) := by decide +kernel
theorem dX4_put_17 : decode cX4_put 17 = .ok (.aload_n 0, 1) := by decide +kernel
theorem dX4_put_18 : decode cX4_put 18 = .ok (.getfield 9, 3) := by decide +kernel
theorem dX4_put_21 : decode cX4_put 21 = .ok (.arraylength, 1) := by decide +kernel
theorem dX4_put_22 : decode cX4_put 22 = .ok (.if_icmp .ge 11, 3) := by decide +kernel
theorem dX4_put_25 : decode cX4_put 25 = .ok (.aload_n 0, 1) := by decide +kernel
theorem dX4_put_26 : decode cX4_put 26 = .ok (.getfield 9, 3) := by decide +kernel
theorem dX4_put_29 : decode cX4_put 29 = .ok (.iload 4, 2) := by decide +kernel
theorem dX4_put_31 : decode cX4_put 31 = .ok (.iload_n 3, 1) := by decide +kernel
theorem dX4_put_32 : decode cX4_put 32 = .ok (.iastore, 1) := by decide +kernel
theorem dX4_put_33 : decode cX4_put 33 = .ok (.return_, 1) := by decide +kernel
theorem dX4_increase_0 : decode cX4_increase 0 = .ok (.iload_n 1, 1) := by decide +kernel
theorem dX4_increase_1 : decode cX4_increase 1 = .ok (.aload_n 0, 1) := by decide +kernel
theorem dX4_increase_2 : decode cX4_increase 2 = .ok (.getfield 15, 3) := by decide +kernel
theorem dX4_increase_5 : decode cX4_increase 5 = .ok (.imul, 1) := by decide +kernel
theorem dX4_increase_6 : decode cX4_increase 6 = .ok (.iload_n 2, 1) := by decide +kernel
theorem dX4_increase_7 : decode cX4_increase 7 = .ok (.iadd, 1) := by decide +kernel
theorem dX4_increase_8 : decode cX4_increase 8 = .ok (.istore 4, 2) := by decide +kernel
theorem dX4_increase_10 : decode cX4_increase 10 = .ok (.iload 4, 2) := by decide +kernel
theorem dX4_increase_12 : decode cX4_increase 12 = .ok (.ifCond .lt 24, 3) := by decide +kernel
theorem dX4_increase_15 : decode cX4_increase 15 = .ok (.iload 4, 2) := by decide +kernel
theorem dX4_increase_17 : decode cX4_increase 17 = .ok (.aload_n 0, 1) := by decide +kernel
theorem dX4_increase_18 : decode cX4_increase 18 = .ok (.getfield 9, 3) := by decide +kernel
theorem dX4_increase_21 : decode cX4_increase 21 = .ok (.arraylength, 1) := by decide +kernel
theorem dX4_increase_22 : decode cX4_increase 22 = .ok (.if_icmp .ge 14, 3) := by decide +kernel
theorem dX4_increase_25 : decode cX4_increase 25 = .ok (.aload_n 0, 1) := by decide +kernel
theorem dX4_increase_26 : decode cX4_increase 26 = .ok (.getfield 9, 3) := by decide +kernel
theorem dX4_increase_29 : decode cX4_increase 29 = .ok (.iload 4, 2) := by decide +kernel
theorem dX4_increase_31 : decode cX4_increase 31 = .ok (.dup2, 1) := by decide +kernel
theorem dX4_increase_32 : decode cX4_increase 32 = .ok (.iaload, 1) := by decide +kernel
theorem dX4_increase_33 : decode cX4_increase 33 = .ok (.iload_n 3, 1) := by decide +kernel
theorem dX4_increase_34 : decode cX4_increase 34 = .ok (.iadd, 1) := by decide +kernel
theorem dX4_increase_35 : decode cX4_increase 35 = .ok (.iastore, 1) := by decide +kernel
theorem dX4_increase_36 : decode cX4_increase 36 = .ok (.return_, 1) := by decide +kernel
set_option maxRecDepth 20000 in
theorem ggX4_countOf_X4_get : GoodIn wsX4_countOf wsX4_get := goodIn_r _ [6, 7, 8, 9, 10, 11] (by decide +kernel) (by decide +kernel)
set_option maxRecDepth 20000 in
theorem gX4_countOf_X4_get : GoodIn wsX4_countOf (wsV RX4 22 RX4 yX4_get wsX4_get) := goodIn_app (goodIn_of _ (by decide +kernel)) ggX4_countOf_X4_get
theorem dX4_countOf_0 : decode cX4_countOf 0 = .ok (.iconst 0, 1) := by decide +kernel
theorem dX4_countOf_1 : decode cX4_countOf 1 = .ok (.istore_n 3, 1) := by decide +kernel
theorem dX4_countOf_2 : decode cX4_countOf 2 = .ok (.iconst 0, 1) := by decide +kernel
theorem dX4_countOf_3 : decode cX4_countOf 3 = .ok (.istore 4, 2) := by decide +kernel
theorem dX4_countOf_5 : decode cX4_countOf 5 = .ok (.iload 4, 2) := by decide +kernel
theorem dX4_countOf_7 : decode cX4_countOf 7 = .ok (.aload_n 0, 1) := by decide +kernel
theorem dX4_countOf_8 : decode cX4_countOf 8 = .ok (.getfield 19, 3) := by decide +kernel
theorem dX4_countOf_11 : decode cX4_countOf 11 = .ok (.if_icmp .ge 23, 3) := by decide +kernel
theorem dX4_countOf_14 : decode cX4_countOf 14 = .ok (.aload_n 0, 1) := by decide +kernel
theorem dX4_countOf_15 : decode cX4_countOf 15 = .ok (.iload 4, 2) := by decide +kernel
theorem dX4_countOf_17 : decode cX4_countOf 17 = .ok (.iload_n 1, 1) := by decide +kernel
theorem dX4_countOf_18 : decode cX4_countOf 18 = .ok (.invokevirtual 22, 3) := by decide +kernel
theorem dX4_countOf_21 : decode cX4_countOf 21 = .ok (.iload_n 2, 1) := by decide +kernel
theorem dX4_countOf_22 : decode cX4_countOf 22 = .ok (.if_icmp .ne 6, 3) := by decide +kernel
theorem dX4_countOf_25 : decode cX4_countOf 25 = .ok (.iinc 3 1, 3) := by decide +kernel
theorem dX4_countOf_28 : decode cX4_countOf 28 = .ok (.iinc 4 1, 3) := by decide +kernel
theorem dX4_countOf_31 : decode cX4_countOf 31 = .ok (.goto (-26), 3) := by decide +kernel
theorem dX4_countOf_34 : decode cX4_countOf 34 = .ok (.iload_n 3, 1) := by decide +kernel
theorem dX4_countOf_35 : decode cX4_countOf 35 = .ok (.ireturn, 1) := by decide +kernel
set_option maxRecDepth 20000 in
theorem ggX4_countOfBoth_X4_get : GoodIn wsX4_countOfBoth wsX4_get := goodIn_r _ [6, 7, 8, 9, 10, 11] (by decide +kernel) (by decide +kernel)
set_option maxRecDepth 20000 in
theorem gX4_countOfBoth_X4_get : GoodIn wsX4_countOfBoth (wsV RX4 22 RX4 yX4_get wsX4_get) := goodIn_app (goodIn_of _ (by decide +kernel)) ggX4_countOfBoth_X4_get
theorem dX4_countOfBoth_0 : decode cX4_countOfBoth 0 = .ok (.iconst 0, 1) := by decide +kernel
theorem dX4_countOfBoth_1 : decode cX4_countOfBoth 1 = .ok (.istore 5, 2) := by decide +kernel
theorem dX4_countOfBoth_3 : decode cX4_countOfBoth 3 = .ok (.iconst 0, 1) := by decide +kernel
theorem dX4_countOfBoth_4 : decode cX4_countOfBoth 4 = .ok (.istore 6, 2) := by decide +kernel
theorem dX4_countOfBoth_6 : decode cX4_countOfBoth 6 = .ok (.iload 6, 2) := by decide +kernel
theorem dX4_countOfBoth_8 : decode cX4_countOfBoth 8 = .ok (.aload_n 0, 1) := by decide +kernel
theorem dX4_countOfBoth_9 : decode cX4_countOfBoth 9 = .ok (.getfield 19, 3) := by decide +kernel
theorem dX4_countOfBoth_12 : decode cX4_countOfBoth 12 = .ok (.if_icmp .ge 35, 3) := by decide +kernel
theorem dX4_countOfBoth_15 : decode cX4_countOfBoth 15 = .ok (.aload_n 0, 1) := by decide +kernel
theorem dX4_countOfBoth_16 : decode cX4_countOfBoth 16 = .ok (.iload 6, 2) := by decide +kernel
theorem dX4_countOfBoth_18 : decode cX4_countOfBoth 18 = .ok (.iload_n 1, 1) := by decide +kernel
theorem dX4_countOfBoth_19 : decode cX4_countOfBoth 19 = .ok (.invokevirtual 22, 3) := by decide +kernel
theorem dX4_countOfBoth_22 : decode cX4_countOfBoth 22 = .ok (.iload_n 2, 1) := by decide +kernel
theorem dX4_countOfBoth_23 : decode cX4_countOfBoth 23 = .ok (.if_icmp .ne 18, 3) := by decide +kernel
theorem dX4_countOfBoth_26 : decode cX4_countOfBoth 26 = .ok (.aload_n 0, 1) := by decide +kernel
theorem dX4_countOfBoth_27 : decode cX4_countOfBoth 27 = .ok (.iload 6, 2) := by decide +kernel
theorem dX4_countOfBoth_29 : decode cX4_countOfBoth 29 = .ok (.iload_n 3, 1) := by decide +kernel
theorem dX4_countOfBoth_30 : decode cX4_countOfBoth 30 = .ok (.invokevirtual 22, 3) := by decide +kernel
theorem dX4_countOfBoth_33 : decode cX4_countOfBoth 33 = .ok (.iload 4, 2) := by decide +kernel
theorem dX4_countOfBoth_35 : decode cX4_countOfBoth 35 = .ok (.if_icmp .ne 6, 3) := by decide +kernel
theorem dX4_countOfBoth_38 : decode cX4_countOfBoth 38 = .ok (.iinc 5 1, 3) := by decide +kernel
theorem dX4_countOfBoth_41 : decode cX4_countOfBoth 41 = .ok (.iinc 6 1, 3) := by decide +kernel
theorem dX4_countOfBoth_44 : decode cX4_countOfBoth 44 = .ok (.goto (-38), 3) := by decide +kernel
theorem dX4_countOfBoth_47 : decode cX4_countOfBoth 47 = .ok (.iload 5, 2) := by decide +kernel
theorem dX4_countOfBoth_49 : decode cX4_countOfBoth 49 = .ok (.ireturn, 1) := by decide +kernel
set_option maxRecDepth 20000 in
theorem ggX4_rowOfBoth_X4_get : GoodIn wsX4_rowOfBoth wsX4_get := goodIn_r _ [6, 7, 8, 9, 10, 11] (by decide +kernel) (by decide +kernel)
set_option maxRecDepth 20000 in
theorem gX4_rowOfBoth_X4_get : GoodIn wsX4_rowOfBoth (wsV RX4 22 RX4 yX4_get wsX4_get) := goodIn_app (goodIn_of _ (by decide +kernel)) ggX4_rowOfBoth_X4_get
theorem dX4_rowOfBoth_0 : decode cX4_rowOfBoth 0 = .ok (.iconst 0, 1) := by decide +kernel
theorem dX4_rowOfBoth_1 : decode cX4_rowOfBoth 1 = .ok (.istore 5, 2) := by decide +kernel
theorem dX4_rowOfBoth_3 : decode cX4_rowOfBoth 3 = .ok (.iload 5, 2) := by decide +kernel
theorem dX4_rowOfBoth_5 : decode cX4_rowOfBoth 5 = .ok (.aload_n 0, 1) := by decide +kernel
theorem dX4_rowOfBoth_6 : decode cX4_rowOfBoth 6 = .ok (.getfield 19, 3) := by decide +kernel
theorem dX4_rowOfBoth_9 : decode cX4_rowOfBoth 9 = .ok (.if_icmp .ge 35, 3) := by decide +kernel
theorem dX4_rowOfBoth_12 : decode cX4_rowOfBoth 12 = .ok (.aload_n 0, 1) := by decide +kernel
theorem dX4_rowOfBoth_13 : decode cX4_rowOfBoth 13 = .ok (.iload 5, 2) := by decide +kernel
theorem dX4_rowOfBoth_15 : decode cX4_rowOfBoth 15 = .ok (.iload_n 1, 1) := by decide +kernel
theorem dX4_rowOfBoth_16 : decode cX4_rowOfBoth 16 = .ok (.invokevirtual 22, 3) := by decide +kernel
theorem dX4_rowOfBoth_19 : decode cX4_rowOfBoth 19 = .ok (.iload_n 2, 1) := by decide +kernel
theorem dX4_rowOfBoth_20 : decode cX4_rowOfBoth 20 = .ok (.if_icmp .ne 18, 3) := by decide +kernel
theorem dX4_rowOfBoth_23 : decode cX4_rowOfBoth 23 = .ok (.aload_n 0, 1) := by decide +kernel
theorem dX4_rowOfBoth_24 : decode cX4_rowOfBoth 24 = .ok (.iload 5, 2) := by decide +kernel
theorem dX4_rowOfBoth_26 : decode cX4_rowOfBoth 26 = .ok (.iload_n 3, 1) := by decide +kernel
theorem dX4_rowOfBoth_27 : decode cX4_rowOfBoth 27 = .ok (.invokevirtual 22, 3) := by decide +kernel
theorem dX4_rowOfBoth_30 : decode cX4_rowOfBoth 30 = .ok (.iload 4, 2) := by decide +kernel
theorem dX4_rowOfBoth_32 : decode cX4_rowOfBoth 32 = .ok (.if_icmp .ne 6, 3) := by decide +kernel
theorem dX4_rowOfBoth_35 : decode cX4_rowOfBoth 35 = .ok (.iload 5, 2) := by decide +kernel
theorem dX4_rowOfBoth_37 : decode cX4_rowOfBoth 37 = .ok (.ireturn, 1) := by decide +kernel
theorem dX4_rowOfBoth_38 : decode cX4_rowOfBoth 38 = .ok (.iinc 5 1, 3) := by decide +kernel
theorem dX4_rowOfBoth_41 : decode cX4_rowOfBoth 41 = .ok (.goto (-38), 3) := by decide +kernel
theorem dX4_rowOfBoth_44 : decode cX4_rowOfBoth 44 = .ok (.bipush (-5), 2) := by decide +kernel
theorem dX4_rowOfBoth_46 : decode cX4_rowOfBoth 46 = .ok (.ireturn, 1) := by decide +kernel
set_option maxRecDepth 20000 in
theorem ggX4_sumOf_X4_get : GoodIn wsX4_sumOf wsX4_get := goodIn_r _ [6, 7, 8, 9, 10, 11] (by decide +kernel) (by decide +kernel)
set_option maxRecDepth 20000 in
theorem gX4_sumOf_X4_get : GoodIn wsX4_sumOf (wsV RX4 22 RX4 yX4_get wsX4_get) := goodIn_app (goodIn_of _ (by decide +kernel)) ggX4_sumOf_X4_get
theorem dX4_sumOf_0 : decode cX4_sumOf 0 = .ok (.iconst 0, 1) := by decide +kernel
theorem dX4_sumOf_1 : decode cX4_sumOf 1 = .ok (.istore_n 2, 1) := by decide +kernel
theorem dX4_sumOf_2 : decode cX4_sumOf 2 = .ok (.iconst 0, 1) := by decide +kernel
theorem dX4_sumOf_3 : decode cX4_sumOf 3 = .ok (.istore_n 3, 1) := by decide +kernel
theorem dX4_sumOf_4 : decode cX4_sumOf 4 = .ok (.iload_n 3, 1) := by decide +kernel
theorem dX4_sumOf_5 : decode cX4_sumOf 5 = .ok (.aload_n 0, 1) := by decide +kernel
theorem dX4_sumOf_6 : decode cX4_sumOf 6 = .ok (.getfield 19, 3) := by decide +kernel
theorem dX4_sumOf_9 : decode cX4_sumOf 9 = .ok (.if_icmp .ge 18, 3) := by decide +kernel
theorem dX4_sumOf_12 : decode cX4_sumOf 12 = .ok (.iload_n 2, 1) := by decide +kernel
theorem dX4_sumOf_13 : decode cX4_sumOf 13 = .ok (.aload_n 0, 1) := by decide +kernel
theorem dX4_sumOf_14 : decode cX4_sumOf 14 = .ok (.iload_n 3, 1) := by decide +kernel
theorem dX4_sumOf_15 : decode cX4_sumOf 15 = .ok (.iload_n 1, 1) := by decide +kernel
theorem dX4_sumOf_16 : decode cX4_sumOf 16 = .ok (.invokevirtual 22, 3) := by decide +kernel
theorem dX4_sumOf_19 : decode cX4_sumOf 19 = .ok (.iadd, 1) := by decide +kernel
theorem dX4_sumOf_20 : decode cX4_sumOf 20 = .ok (.istore_n 2, 1) := by decide +kernel
theorem dX4_sumOf_21 : decode cX4_sumOf 21 = .ok (.iinc 3 1, 3) := by decide +kernel
theorem dX4_sumOf_24 : decode cX4_sumOf 24 = .ok (.goto (-20), 3) := by decide +kernel
theorem dX4_sumOf_27 : decode cX4_sumOf 27 = .ok (.iload_n 2, 1) := by decide +kernel
theorem dX4_sumOf_28 : decode cX4_sumOf 28 = .ok (.ireturn, 1) := by decide +kernel
theorem dX4_copyFrom_0 : decode cX4_copyFrom 0 = .ok (.aload_n 0, 1) := by decide +kernel
theorem dX4_copyFrom_1 : decode cX4_copyFrom 1 = .ok (.aload_n 1, 1) := by decide +kernel
theorem dX4_copyFrom_2 : decode cX4_copyFrom 2 = .ok (.getfield 19, 3) := by decide +kernel
theorem dX4_copyFrom_5 : decode cX4_copyFrom 5 = .ok (.putfield 19, 3) := by decide +kernel
theorem dX4_copyFrom_8 : decode cX4_copyFrom 8 = .ok (.aload_n 1, 1) := by decide +kernel
theorem dX4_copyFrom_9 : decode cX4_copyFrom 9 = .ok (.getfield 9, 3) := by decide +kernel
theorem dX4_copyFrom_12 : decode cX4_copyFrom 12 = .ok (.iconst 0, 1) := by decide +kernel
theorem dX4_copyFrom_13 : decode cX4_copyFrom 13 = .ok (.aload_n 0, 1) := by decide +kernel
theorem dX4_copyFrom_14 : decode cX4_copyFrom 14 = .ok (.getfield 9, 3) := by decide +kernel
theorem dX4_copyFrom_17 : decode cX4_copyFrom 17 = .ok (.iconst 0, 1) := by decide +kernel
theorem dX4_copyFrom_18 : decode cX4_copyFrom 18 = .ok (.aload_n 0, 1) := by decide +kernel
theorem dX4_copyFrom_19 : decode cX4_copyFrom 19 = .ok (.getfield 9, 3) := by decide +kernel
theorem dX4_copyFrom_22 : decode cX4_copyFrom 22 = .ok (.arraylength, 1) := by decide +kernel
theorem dX4_copyFrom_23 : decode cX4_copyFrom 23 = .ok (.aload_n 1, 1) := by decide +kernel
theorem dX4_copyFrom_24 : decode cX4_copyFrom 24 = .ok (.getfield 9, 3) := by decide +kernel
theorem dX4_copyFrom_27 : decode cX4_copyFrom 27 = .ok (.arraylength, 1) := by decide +kernel
theorem dX4_copyFrom_28 : decode cX4_copyFrom 28 = .ok (.invokestatic 26, 3) := by decide +kernel
theorem dX4_copyFrom_31 : decode cX4_copyFrom 31 = .ok (.invokestatic 31, 3) := by decide +kernel
theorem dX4_copyFrom_34 : decode cX4_copyFrom 34 = .ok (.return_, 1) := by decide +kernel
set_option maxRecDepth 20000 in
theorem ggX5_init_X0_init : GoodIn wsX5_init wsX0_init := goodIn_r _ [22, 23, 2, 3, 24, 25, 26, 27, 28, 29, 30, 31, 32, 33, 34, 35, 36, 37, 38, 39, 40, 41, 42, 43, 44, 45, 46, 47, 48, 49, 50, 51, 52, 53, 54, 55, 56, 57, 58, 6, 59, 98, 99, 100, 75, 76, 77, 78, 79, 80, 81, 101, 102, 103] (by decide +kernel) (by decide +kernel)
set_option maxRecDepth 20000 in
theorem gX5_init_X0_init : GoodIn wsX5_init (wsX0_init) := ggX5_init_X0_init
set_option maxRecDepth 20000 in
theorem ggX5_init_X1_init : GoodIn wsX5_init wsX1_init := goodIn_r _ [62, 63, 2, 3, 64, 65, 5, 6, 66, 21, 22, 23, 24, 25, 26, 27, 28, 29, 30, 31, 32, 33, 34, 35, 36, 37, 38, 39, 40, 41, 42, 43, 44, 45, 46, 47, 48, 49, 50, 51, 52, 53, 54, 55, 56, 57, 58, 59, 90, 91, 92, 75, 76, 77, 78, 79, 80, 81, 98, 99, 100, 101, 102, 103] (by decide +kernel) (by decide +kernel)
set_option maxRecDepth 20000 in
theorem gX5_init_X1_init : GoodIn wsX5_init (wsX1_init) := ggX5_init_X1_init
set_option maxRecDepth 20000 in
theorem ggX5_init_X2_init : GoodIn wsX5_init wsX2_init := goodIn_r _ [68, 69, 2, 3, 70, 71, 72, 25, 26, 27, 73, 74, 38, 39, 40, 41, 42, 93, 94, 95, 96, 97, 98, 99, 100] (by decide +kernel) (by decide +kernel)
set_option maxRecDepth 20000 in
theorem gX5_init_X2_init_n31 : GoodIn wsX5_init (wsX2_init) := ggX5_init_X2_init
theorem dX5_init_0 : decode cX5_init 0 = .ok (.aload_n 0, 1) := by decide +kernel
theorem dX5_init_1 : decode cX5_init 1 = .ok (.invokespecial 1, 3) := by decide +kernel
theorem dX5_init_4 : decode cX5_init 4 = .ok (.aload_n 0, 1) := by decide +kernel
theorem dX5_init_5 : decode cX5_init 5 = .ok (.new 7, 3) := by decide +kernel
theorem dX5_init_8 : decode cX5_init 8 = .ok (.dup, 1) := by decide +kernel
theorem dX5_init_9 : decode cX5_init 9 = .ok (.invokespecial 9, 3) := by decide +kernel
theorem dX5_init_12 : decode cX5_init 12 = .ok (.putfield 10, 3) := by decide +kernel
theorem dX5_init_15 : decode cX5_init 15 = .ok (.aload_n 0, 1) := by decide +kernel
theorem dX5_init_16 : decode cX5_init 16 = .ok (.new 7, 3) := by decide +kernel
theorem dX5_init_19 : decode cX5_init 19 = .ok (.dup, 1) := by decide +kernel
theorem dX5_init_20 : decode cX5_init 20 = .ok (.invokespecial 9, 3) := by decide +kernel
theorem dX5_init_23 : decode cX5_init 23 = .ok (.putfield 16, 3) := by decide +kernel
theorem dX5_init_26 : decode cX5_init 26 = .ok (.aload_n 0, 1) := by decide +kernel
theorem dX5_init_27 : decode cX5_init 27 = .ok (.new 7, 3) := by decide +kernel
theorem dX5_init_30 : decode cX5_init 30 = .ok (.dup, 1) := by decide +kernel
theorem dX5_init_31 : decode cX5_init 31 = .ok (.invokespecial 9, 3) := by decide +kernel
theorem dX5_init_34 : decode cX5_init 34 = .ok (.putfield 19, 3) := by decide +kernel
theorem dX5_init_37 : decode cX5_init 37 = .ok (.aload_n 0, 1) := by decide +kernel
theorem dX5_init_38 : decode cX5_init 38 = .ok (.new 22, 3) := by decide +kernel
theorem dX5_init_41 : decode cX5_init 41 = .ok (.dup, 1) := by decide +kernel
theorem dX5_init_42 : decode cX5_init 42 = .ok (.invokespecial 24, 3) := by decide +kernel
theorem dX5_init_45 : decode cX5_init 45 = .ok (.putfield 25, 3) := by decide +kernel
theorem dX5_init_48 : decode cX5_init 48 = .ok (.aload_n 0, 1) := by decide +kernel
theorem dX5_init_49 : decode cX5_init 49 = .ok (.new 29, 3) := by decide +kernel
theorem dX5_init_52 : decode cX5_init 52 = .ok (.dup, 1) := by decide +kernel
theorem dX5_init_53 : decode cX5_init 53 = .ok (.invokespecial 31, 3) := by decide +kernel
theorem dX5_init_56 : decode cX5_init 56 = .ok (.putfield 32, 3) := by decide +kernel
theorem dX5_init_59 : decode cX5_init 59 = .ok (.aload_n 0, 1) := by decide +kernel
theorem dX5_init_60 : decode cX5_init 60 = .ok (.bipush (-5), 2) := by decide +kernel
theorem dX5_init_62 : decode cX5_init 62 = .ok (.putfield 36, 3) := by decide +kernel
theorem dX5_init_65 : decode cX5_init 65 = .ok (.aload_n 0, 1) := by decide +kernel
theorem dX5_init_66 : decode cX5_init 66 = .ok (.bipush (-5), 2) := by decide +kernel
theorem dX5_init_68 : decode cX5_init 68 = .ok (.putfield 40, 3) := by decide +kernel
theorem dX5_init_71 : decode cX5_init 71 = .ok (.return_, 1) := by decide +kernel
set_option maxRecDepth 20000 in
theorem ggX5_ask_X0_copyFrom : GoodIn wsX5_ask wsX0_copyFrom := goodIn_r _ [7, 8, 9, 10, 11, 12, 13, 14, 15, 16, 17, 18, 19, 20, 21, 22, 23, 24, 25, 26, 27, 28, 29, 30, 31, 32, 33, 34, 35, 36, 37, 38, 39, 88, 89, 90, 91, 92, 93, 94, 95, 96, 97, 98, 99, 100] (by decide +kernel) (by decide +kernel)
set_option maxRecDepth 20000 in
theorem gX5_ask_X0_copyFrom : GoodIn wsX5_ask (wsV RX5 43 RX0 yX0_copyFrom wsX0_copyFrom) := goodIn_app (goodIn_of _ (by decide +kernel)) ggX5_ask_X0_copyFrom
set_option maxRecDepth 20000 in
theorem ggX5_ask_X0_addRiddle : GoodIn wsX5_ask wsX0_addRiddle := goodIn_r _ [43, 8, 9, 44, 45, 46, 18, 47, 20, 48, 49, 50, 51, 52, 53, 54, 55, 56, 57, 58, 59, 60, 21, 88, 89, 90, 91, 92, 93, 94, 95, 96, 97] (by decide +kernel) (by decide +kernel)
set_option maxRecDepth 20000 in
theorem gX5_ask_X0_addRiddle : GoodIn wsX5_ask (wsV RX5 47 RX0 yX0_addRiddle wsX0_addRiddle) := goodIn_app (goodIn_of _ (by decide +kernel)) ggX5_ask_X0_addRiddle
set_option maxRecDepth 20000 in
theorem ggX5_ask_X5_finishAct : GoodIn wsX5_ask wsX5_finishAct := goodIn_r _ [65, 66, 2, 1, 67, 68, 69, 70, 71, 72, 73, 74, 75, 76, 77, 78, 79, 4, 5, 6, 7, 8, 9, 10, 11, 12, 13, 14, 15, 16, 17, 18, 19, 20, 21, 22, 23, 24, 25, 26, 27, 28, 29, 30, 31, 32, 33, 34, 35, 36, 37, 38, 39, 3, 80, 81, 82, 83, 84, 85, 86, 87, 101, 102, 103, 88, 89, 90, 91, 92, 93, 94, 95, 96, 97, 98, 99, 100] (by decide +kernel) (by decide +kernel)
set_option maxRecDepth 20000 in
theorem gX5_ask_X5_finishAct : GoodIn wsX5_ask (wsV RX5 51 RX5 yX5_finishAct wsX5_finishAct) := goodIn_app (goodIn_of _ (by decide +kernel)) ggX5_ask_X5_finishAct
theorem dX5_ask_0 : decode cX5_ask 0 = .ok (.aload_n 0, 1) := by decide +kernel
theorem dX5_ask_1 : decode cX5_ask 1 = .ok (.getfield 16, 3) := by decide +kernel
theorem dX5_ask_4 : decode cX5_ask 4 = .ok (.aload_n 0, 1) := by decide +kernel
theorem dX5_ask_5 : decode cX5_ask 5 = .ok (.getfield 10, 3) := by decide +kernel
theorem dX5_ask_8 : decode cX5_ask 8 = .ok (.invokevirtual 43, 3) := by decide +kernel
theorem dX5_ask_11 : decode cX5_ask 11 = .ok (.aload_n 0, 1) := by decide +kernel
theorem dX5_ask_12 : decode cX5_ask 12 = .ok (.aload_n 0, 1) := by decide +kernel
theorem dX5_ask_13 : decode cX5_ask 13 = .ok (.getfield 16, 3) := by decide +kernel
theorem dX5_ask_16 : decode cX5_ask 16 = .ok (.iload_n 1, 1) := by decide +kernel
theorem dX5_ask_17 : decode cX5_ask 17 = .ok (.iload_n 2, 1) := by decide +kernel
theorem dX5_ask_18 : decode cX5_ask 18 = .ok (.iload_n 3, 1) := by decide +kernel
theorem dX5_ask_19 : decode cX5_ask 19 = .ok (.invokevirtual 47, 3) := by decide +kernel
theorem dX5_ask_22 : decode cX5_ask 22 = .ok (.invokevirtual 51, 3) := by decide +kernel
theorem dX5_ask_25 : decode cX5_ask 25 = .ok (.ireturn, 1) := by decide +kernel
set_option maxRecDepth 20000 in
theorem ggX5_withdraw_X0_copyFrom : GoodIn wsX5_withdraw wsX0_copyFrom := goodIn_r _ [7, 8, 9, 10, 11, 12, 13, 14, 15, 16, 17, 18, 19, 20, 21, 22, 23, 24, 25, 26, 27, 28, 29, 30, 31, 32, 33, 34, 35, 36, 37, 38, 39, 89, 90, 91, 92, 93, 94, 95, 96, 97, 98, 99, 100, 101] (by decide +kernel) (by decide +kernel)
set_option maxRecDepth 20000 in
theorem gX5_withdraw_X0_copyFrom : GoodIn wsX5_withdraw (wsV RX5 43 RX0 yX0_copyFrom wsX0_copyFrom) := goodIn_app (goodIn_of _ (by decide +kernel)) ggX5_withdraw_X0_copyFrom
set_option maxRecDepth 20000 in
theorem ggX5_withdraw_X0_closeRiddle : GoodIn wsX5_withdraw wsX0_closeRiddle := goodIn_r _ [43, 9, 10, 44, 45, 46, 18, 47, 20, 48, 49, 50, 51, 52, 21, 53, 54, 55, 56, 57, 58, 59, 60, 61, 89, 90, 91, 92, 93, 94, 95, 96, 97, 98] (by decide +kernel) (by decide +kernel)
set_option maxRecDepth 20000 in
theorem gX5_withdraw_X0_closeRiddle : GoodIn wsX5_withdraw (wsV RX5 55 RX0 yX0_closeRiddle wsX0_closeRiddle) := goodIn_app (goodIn_of _ (by decide +kernel)) ggX5_withdraw_X0_closeRiddle
set_option maxRecDepth 20000 in
theorem ggX5_withdraw_X5_finishAct : GoodIn wsX5_withdraw wsX5_finishAct := goodIn_r _ [66, 67, 2, 1, 68, 69, 70, 71, 72, 73, 74, 75, 76, 77, 78, 79, 80, 4, 5, 6, 7, 8, 9, 10, 11, 12, 13, 14, 15, 16, 17, 18, 19, 20, 21, 22, 23, 24, 25, 26, 27, 28, 29, 30, 31, 32, 33, 34, 35, 36, 37, 38, 39, 3, 81, 82, 83, 84, 85, 86, 87, 88, 102, 103, 104, 89, 90, 91, 92, 93, 94, 95, 96, 97, 98, 99, 100, 101] (by decide +kernel) (by decide +kernel)
set_option maxRecDepth 20000 in
theorem gX5_withdraw_X5_finishAct : GoodIn wsX5_withdraw (wsV RX5 51 RX5 yX5_finishAct wsX5_finishAct) := goodIn_app (goodIn_of _ (by decide +kernel)) ggX5_withdraw_X5_finishAct
theorem dX5_withdraw_0 : decode cX5_withdraw 0 = .ok (.aload_n 0, 1) := by decide +kernel
theorem dX5_withdraw_1 : decode cX5_withdraw 1 = .ok (.getfield 16, 3) := by decide +kernel
theorem dX5_withdraw_4 : decode cX5_withdraw 4 = .ok (.aload_n 0, 1) := by decide +kernel
theorem dX5_withdraw_5 : decode cX5_withdraw 5 = .ok (.getfield 10, 3) := by decide +kernel
theorem dX5_withdraw_8 : decode cX5_withdraw 8 = .ok (.invokevirtual 43, 3) := by decide +kernel
theorem dX5_withdraw_11 : decode cX5_withdraw 11 = .ok (.aload_n 0, 1) := by decide +kernel
theorem dX5_withdraw_12 : decode cX5_withdraw 12 = .ok (.aload_n 0, 1) := by decide +kernel
theorem dX5_withdraw_13 : decode cX5_withdraw 13 = .ok (.getfield 16, 3) := by decide +kernel
theorem dX5_withdraw_16 : decode cX5_withdraw 16 = .ok (.iload_n 1, 1) := by decide +kernel
theorem dX5_withdraw_17 : decode cX5_withdraw 17 = .ok (.invokevirtual 55, 3) := by decide +kernel
theorem dX5_withdraw_20 : decode cX5_withdraw 20 = .ok (.invokevirtual 51, 3) := by decide +kernel
theorem dX5_withdraw_23 : decode cX5_withdraw 23 = .ok (.ireturn, 1) := by decide +kernel
set_option maxRecDepth 20000 in
theorem ggX5_deliver_X0_copyFrom : GoodIn wsX5_deliver wsX0_copyFrom := goodIn_r _ [7, 8, 9, 10, 11, 12, 13, 14, 15, 16, 17, 18, 19, 20, 21, 22, 23, 24, 25, 26, 27, 28, 29, 30, 31, 32, 33, 34, 35, 36, 37, 38, 39, 96, 97, 98, 99, 100, 101, 102, 103, 104, 105, 106, 107, 108] (by decide +kernel) (by decide +kernel)
set_option maxRecDepth 20000 in
theorem gX5_deliver_X0_copyFrom : GoodIn wsX5_deliver (wsV RX5 43 RX0 yX0_copyFrom wsX0_copyFrom) := goodIn_app (goodIn_of _ (by decide +kernel)) ggX5_deliver_X0_copyFrom
set_option maxRecDepth 20000 in
theorem ggX5_deliver_X0_addAnswer : GoodIn wsX5_deliver wsX0_addAnswer := goodIn_r _ [43, 8, 9, 10, 13, 44, 45, 46, 18, 47, 20, 48, 49, 50, 51, 52, 21, 53, 54, 55, 56, 57, 58, 59, 60, 61, 62, 63, 64, 65, 66, 67, 33, 68, 35, 36, 37, 96, 97, 98, 99, 100, 101, 102, 103, 104, 105, 106, 107, 108] (by decide +kernel) (by decide +kernel)
set_option maxRecDepth 20000 in
theorem gX5_deliver_X0_addAnswer : GoodIn wsX5_deliver (wsV RX5 58 RX0 yX0_addAnswer wsX0_addAnswer) := goodIn_app (goodIn_of _ (by decide +kernel)) ggX5_deliver_X0_addAnswer
set_option maxRecDepth 20000 in
theorem ggX5_deliver_X5_finishAct : GoodIn wsX5_deliver wsX5_finishAct := goodIn_r _ [73, 74, 2, 1, 75, 76, 77, 78, 79, 80, 81, 82, 83, 84, 85, 86, 87, 4, 5, 6, 7, 8, 9, 10, 11, 12, 13, 14, 15, 16, 17, 18, 19, 20, 21, 22, 23, 24, 25, 26, 27, 28, 29, 30, 31, 32, 33, 34, 35, 36, 37, 38, 39, 3, 88, 89, 90, 91, 92, 93, 94, 95, 109, 110, 111, 96, 97, 98, 99, 100, 101, 102, 103, 104, 105, 106, 107, 108] (by decide +kernel) (by decide +kernel)
set_option maxRecDepth 20000 in
theorem gX5_deliver_X5_finishAct : GoodIn wsX5_deliver (wsV RX5 51 RX5 yX5_finishAct wsX5_finishAct) := goodIn_app (goodIn_of _ (by decide +kernel)) ggX5_deliver_X5_finishAct
theorem dX5_deliver_0 : decode cX5_deliver 0 = .ok (.aload_n 0, 1) := by decide +kernel
theorem dX5_deliver_1 : decode cX5_deliver 1 = .ok (.getfield 16, 3) := by decide +kernel
theorem dX5_deliver_4 : decode cX5_deliver 4 = .ok (.aload_n 0, 1) := by decide +kernel
theorem dX5_deliver_5 : decode cX5_deliver 5 = .ok (.getfield 10, 3) := by decide +kernel
theorem dX5_deliver_8 : decode cX5_deliver 8 = .ok (.invokevirtual 43, 3) := by decide +kernel
theorem dX5_deliver_11 : decode cX5_deliver 11 = .ok (.aload_n 0, 1) := by decide +kernel
theorem dX5_deliver_12 : decode cX5_deliver 12 = .ok (.aload_n 0, 1) := by decide +kernel
theorem dX5_deliver_13 : decode cX5_deliver 13 = .ok (.getfield 16, 3) := by decide +kernel
theorem dX5_deliver_16 : decode cX5_deliver 16 = .ok (.iload_n 1, 1) := by decide +kernel
theorem dX5_deliver_17 : decode cX5_deliver 17 = .ok (.iload_n 2, 1) := by decide +kernel
theorem dX5_deliver_18 : decode cX5_deliver 18 = .ok (.iload_n 3, 1) := by decide +kernel
theorem dX5_deliver_19 : decode cX5_deliver 19 = .ok (.iload 4, 2) := by decide +kernel
theorem dX5_deliver_21 : decode cX5_deliver 21 = .ok (.invokevirtual 58, 3) := by decide +kernel
theorem dX5_deliver_24 : decode cX5_deliver 24 = .ok (.invokevirtual 51, 3) := by decide +kernel
theorem dX5_deliver_27 : decode cX5_deliver 27 = .ok (.ireturn, 1) := by decide +kernel
set_option maxRecDepth 20000 in
theorem ggX5_adjust_X0_copyFrom : GoodIn wsX5_adjust wsX0_copyFrom := goodIn_r _ [7, 8, 9, 10, 11, 12, 13, 14, 15, 16, 17, 18, 19, 20, 21, 22, 23, 24, 25, 26, 27, 28, 29, 30, 31, 32, 33, 34, 35, 36, 37, 38, 39, 83, 84, 85, 86, 87, 88, 89, 90, 91, 92, 93, 94, 95] (by decide +kernel) (by decide +kernel)
set_option maxRecDepth 20000 in
theorem gX5_adjust_X0_copyFrom : GoodIn wsX5_adjust (wsV RX5 43 RX0 yX0_copyFrom wsX0_copyFrom) := goodIn_app (goodIn_of _ (by decide +kernel)) ggX5_adjust_X0_copyFrom
set_option maxRecDepth 20000 in
theorem ggX5_adjust_X0_setScalesRight : GoodIn wsX5_adjust wsX0_setScalesRight := goodIn_r _ [43, 11, 44, 45, 24, 46, 47, 48, 49, 18, 50, 51, 21, 52, 53, 54, 55, 83, 84, 85, 86, 87, 88, 89, 90, 91, 92] (by decide +kernel) (by decide +kernel)
set_option maxRecDepth 20000 in
theorem gX5_adjust_X0_setScalesRight : GoodIn wsX5_adjust (wsV RX5 62 RX0 yX0_setScalesRight wsX0_setScalesRight) := goodIn_app (goodIn_of _ (by decide +kernel)) ggX5_adjust_X0_setScalesRight
set_option maxRecDepth 20000 in
theorem ggX5_adjust_X5_finishAct : GoodIn wsX5_adjust wsX5_finishAct := goodIn_r _ [60, 61, 2, 1, 62, 63, 64, 65, 66, 67, 68, 69, 70, 71, 72, 73, 74, 4, 5, 6, 7, 8, 9, 10, 11, 12, 13, 14, 15, 16, 17, 18, 19, 20, 21, 22, 23, 24, 25, 26, 27, 28, 29, 30, 31, 32, 33, 34, 35, 36, 37, 38, 39, 3, 75, 76, 77, 78, 79, 80, 81, 82, 96, 97, 98, 83, 84, 85, 86, 87, 88, 89, 90, 91, 92, 93, 94, 95] (by decide +kernel) (by decide +kernel)
set_option maxRecDepth 20000 in
theorem gX5_adjust_X5_finishAct : GoodIn wsX5_adjust (wsV RX5 51 RX5 yX5_finishAct wsX5_finishAct) := goodIn_app (goodIn_of _ (by decide +kernel)) ggX5_adjust_X5_finishAct
theorem dX5_adjust_0 : decode cX5_adjust 0 = .ok (.aload_n 0, 1) := by decide +kernel
theorem dX5_adjust_1 : decode cX5_adjust 1 = .ok (.getfield 16, 3) := by decide +kernel
theorem dX5_adjust_4 : decode cX5_adjust 4 = .ok (.aload_n 0, 1) := by decide +kernel
theorem dX5_adjust_5 : decode cX5_adjust 5 = .ok (.getfield 10, 3) := by decide +kernel
theorem dX5_adjust_8 : decode cX5_adjust 8 = .ok (.invokevirtual 43, 3) := by decide +kernel
theorem dX5_adjust_11 : decode cX5_adjust 11 = .ok (.aload_n 0, 1) := by decide +kernel
theorem dX5_adjust_12 : decode cX5_adjust 12 = .ok (.aload_n 0, 1) := by decide +kernel
theorem dX5_adjust_13 : decode cX5_adjust 13 = .ok (.getfield 16, 3) := by decide +kernel
theorem dX5_adjust_16 : decode cX5_adjust 16 = .ok (.invokevirtual 62, 3) := by decide +kernel
theorem dX5_adjust_19 : decode cX5_adjust 19 = .ok (.invokevirtual 51, 3) := by decide +kernel
theorem dX5_adjust_22 : decode cX5_adjust 22 = .ok (.ireturn, 1) := by decide +kernel
set_option maxRecDepth 20000 in
theorem ggX5_set_X0_copyFrom : GoodIn wsX5_set wsX0_copyFrom := goodIn_r _ [7, 8, 9, 10, 11, 12, 13, 14, 15, 16, 17, 18, 19, 20, 21, 22, 23, 24, 25, 26, 27, 28, 29, 30, 31, 32, 33, 34, 35, 36, 37, 38, 39, 84, 85, 86, 87, 88, 89, 90, 91, 92, 93, 94, 95, 96] (by decide +kernel) (by decide +kernel)
set_option maxRecDepth 20000 in
theorem gX5_set_X0_copyFrom : GoodIn wsX5_set (wsV RX5 43 RX0 yX0_copyFrom wsX0_copyFrom) := goodIn_app (goodIn_of _ (by decide +kernel)) ggX5_set_X0_copyFrom
set_option maxRecDepth 20000 in
theorem ggX5_set_X0_changeSetting : GoodIn wsX5_set wsX0_changeSetting := goodIn_r _ [43, 12, 44, 45, 46, 18, 47, 20, 48, 49, 50, 51, 52, 21, 53, 54, 55, 56, 84, 85, 86, 87, 88, 89, 90, 91, 92, 93] (by decide +kernel) (by decide +kernel)
set_option maxRecDepth 20000 in
theorem gX5_set_X0_changeSetting : GoodIn wsX5_set (wsV RX5 66 RX0 yX0_changeSetting wsX0_changeSetting) := goodIn_app (goodIn_of _ (by decide +kernel)) ggX5_set_X0_changeSetting
set_option maxRecDepth 20000 in
theorem ggX5_set_X5_finishAct : GoodIn wsX5_set wsX5_finishAct := goodIn_r _ [61, 62, 2, 1, 63, 64, 65, 66, 67, 68, 69, 70, 71, 72, 73, 74, 75, 4, 5, 6, 7, 8, 9, 10, 11, 12, 13, 14, 15, 16, 17, 18, 19, 20, 21, 22, 23, 24, 25, 26, 27, 28, 29, 30, 31, 32, 33, 34, 35, 36, 37, 38, 39, 3, 76, 77, 78, 79, 80, 81, 82, 83, 97, 98, 99, 84, 85, 86, 87, 88, 89, 90, 91, 92, 93, 94, 95, 96] (by decide +kernel) (by decide +kernel)
set_option maxRecDepth 20000 in
theorem gX5_set_X5_finishAct : GoodIn wsX5_set (wsV RX5 51 RX5 yX5_finishAct wsX5_finishAct) := goodIn_app (goodIn_of _ (by decide +kernel)) ggX5_set_X5_finishAct
theorem dX5_set_0 : decode cX5_set 0 = .ok (.aload_n 0, 1) := by decide +kernel
theorem dX5_set_1 : decode cX5_set 1 = .ok (.getfield 16, 3) := by decide +kernel
theorem dX5_set_4 : decode cX5_set 4 = .ok (.aload_n 0, 1) := by decide +kernel
theorem dX5_set_5 : decode cX5_set 5 = .ok (.getfield 10, 3) := by decide +kernel
theorem dX5_set_8 : decode cX5_set 8 = .ok (.invokevirtual 43, 3) := by decide +kernel
theorem dX5_set_11 : decode cX5_set 11 = .ok (.aload_n 0, 1) := by decide +kernel
theorem dX5_set_12 : decode cX5_set 12 = .ok (.aload_n 0, 1) := by decide +kernel
theorem dX5_set_13 : decode cX5_set 13 = .ok (.getfield 16, 3) := by decide +kernel
theorem dX5_set_16 : decode cX5_set 16 = .ok (.iload_n 1, 1) := by decide +kernel
theorem dX5_set_17 : decode cX5_set 17 = .ok (.iload_n 2, 1) := by decide +kernel
theorem dX5_set_18 : decode cX5_set 18 = .ok (.invokevirtual 66, 3) := by decide +kernel
theorem dX5_set_21 : decode cX5_set 21 = .ok (.invokevirtual 51, 3) := by decide +kernel
theorem dX5_set_24 : decode cX5_set 24 = .ok (.ireturn, 1) := by decide +kernel
set_option maxRecDepth 20000 in
theorem ggX5_pass_X0_copyFrom : GoodIn wsX5_pass wsX0_copyFrom := goodIn_r _ [7, 8, 9, 10, 11, 12, 13, 14, 15, 16, 17, 18, 19, 20, 21, 22, 23, 24, 25, 26, 27, 28, 29, 30, 31, 32, 33, 34, 35, 36, 37, 38, 39, 147, 148, 149, 150, 151, 152, 153, 154, 155, 156, 157, 158, 159] (by decide +kernel) (by decide +kernel)
set_option maxRecDepth 20000 in
theorem gX5_pass_X0_copyFrom : GoodIn wsX5_pass (wsV RX5 43 RX0 yX0_copyFrom wsX0_copyFrom) := goodIn_app (goodIn_of _ (by decide +kernel)) ggX5_pass_X0_copyFrom
set_option maxRecDepth 20000 in
theorem ggX5_pass_X0_playRounds : GoodIn wsX5_pass wsX0_playRounds := goodIn_r _ [43, 14, 44, 45, 46, 6, 47, 12, 13, 48, 23, 24, 25, 49, 50, 51, 18, 52, 53, 21, 54, 55, 56, 33, 57, 36, 58, 59, 60, 61, 35, 62, 63, 64, 65, 37, 66, 67, 68, 69, 70, 71, 72, 73, 10, 9, 74, 75, 76, 77, 11, 78, 79, 80, 81, 82, 83, 84, 85, 86, 87, 8, 88, 89, 90, 91, 92, 93, 94, 95, 96, 97, 98, 99, 100, 101, 102, 103, 104, 105, 106, 107, 108, 109, 110, 111, 112, 113, 114, 115, 116, 117, 118, 119, 147, 148, 149, 150, 151, 152, 153, 154, 155, 156, 157, 158, 159] (by decide +kernel) (by decide +kernel)
set_option maxRecDepth 20000 in
theorem gX5_pass_X0_playRounds : GoodIn wsX5_pass (wsV RX5 70 RX0 yX0_playRounds wsX0_playRounds) := goodIn_app (goodIn_of _ (by decide +kernel)) ggX5_pass_X0_playRounds
set_option maxRecDepth 20000 in
theorem ggX5_pass_X5_finishAct : GoodIn wsX5_pass wsX5_finishAct := goodIn_r _ [124, 125, 2, 1, 126, 127, 128, 129, 130, 131, 132, 133, 134, 135, 136, 137, 138, 4, 5, 6, 7, 8, 9, 10, 11, 12, 13, 14, 15, 16, 17, 18, 19, 20, 21, 22, 23, 24, 25, 26, 27, 28, 29, 30, 31, 32, 33, 34, 35, 36, 37, 38, 39, 3, 139, 140, 141, 142, 143, 144, 145, 146, 160, 161, 162, 147, 148, 149, 150, 151, 152, 153, 154, 155, 156, 157, 158, 159] (by decide +kernel) (by decide +kernel)
set_option maxRecDepth 20000 in
theorem gX5_pass_X5_finishAct : GoodIn wsX5_pass (wsV RX5 51 RX5 yX5_finishAct wsX5_finishAct) := goodIn_app (goodIn_of _ (by decide +kernel)) ggX5_pass_X5_finishAct
theorem dX5_pass_0 : decode cX5_pass 0 = .ok (.aload_n 0, 1) := by decide +kernel
theorem dX5_pass_1 : decode cX5_pass 1 = .ok (.getfield 16, 3) := by decide +kernel
theorem dX5_pass_4 : decode cX5_pass 4 = .ok (.aload_n 0, 1) := by decide +kernel
theorem dX5_pass_5 : decode cX5_pass 5 = .ok (.getfield 10, 3) := by decide +kernel
theorem dX5_pass_8 : decode cX5_pass 8 = .ok (.invokevirtual 43, 3) := by decide +kernel
theorem dX5_pass_11 : decode cX5_pass 11 = .ok (.aload_n 0, 1) := by decide +kernel
theorem dX5_pass_12 : decode cX5_pass 12 = .ok (.aload_n 0, 1) := by decide +kernel
theorem dX5_pass_13 : decode cX5_pass 13 = .ok (.getfield 16, 3) := by decide +kernel
theorem dX5_pass_16 : decode cX5_pass 16 = .ok (.iload_n 1, 1) := by decide +kernel
theorem dX5_pass_17 : decode cX5_pass 17 = .ok (.invokevirtual 70, 3) := by decide +kernel
theorem dX5_pass_20 : decode cX5_pass 20 = .ok (.invokevirtual 51, 3) := by decide +kernel
theorem dX5_pass_23 : decode cX5_pass 23 = .ok (.ireturn, 1) := by decide +kernel
set_option maxRecDepth 20000 in
theorem ggX5_type_X2_addCharacter : GoodIn wsX5_type wsX2_addCharacter := goodIn_r _ [6, 7, 8, 17, 18, 19, 20, 21] (by decide +kernel) (by decide +kernel)
set_option maxRecDepth 20000 in
theorem gX5_type_X2_addCharacter : GoodIn wsX5_type (wsV RX5 73 RX2 yX2_addCharacter wsX2_addCharacter) := goodIn_app (goodIn_of _ (by decide +kernel)) ggX5_type_X2_addCharacter
theorem dX5_type_0 : decode cX5_type 0 = .ok (.aload_n 0, 1) := by decide +kernel
theorem dX5_type_1 : decode cX5_type 1 = .ok (.getfield 32, 3) := by decide +kernel
theorem dX5_type_4 : decode cX5_type 4 = .ok (.iload_n 1, 1) := by decide +kernel
theorem dX5_type_5 : decode cX5_type 5 = .ok (.invokevirtual 73, 3) := by decide +kernel
theorem dX5_type_8 : decode cX5_type 8 = .ok (.ireturn, 1) := by decide +kernel
set_option maxRecDepth 20000 in
theorem ggX5_clearText_X2_emptyText : GoodIn wsX5_clearText wsX2_emptyText := goodIn_r _ [6, 7, 16, 17, 18, 19, 20] (by decide +kernel) (by decide +kernel)
set_option maxRecDepth 20000 in
theorem gX5_clearText_X2_emptyText : GoodIn wsX5_clearText (wsV RX5 77 RX2 yX2_emptyText wsX2_emptyText) := goodIn_app (goodIn_of _ (by decide +kernel)) ggX5_clearText_X2_emptyText
theorem dX5_clearText_0 : decode cX5_clearText 0 = .ok (.aload_n 0, 1) := by decide +kernel
theorem dX5_clearText_1 : decode cX5_clearText 1 = .ok (.getfield 32, 3) := by decide +kernel
theorem dX5_clearText_4 : decode cX5_clearText 4 = .ok (.invokevirtual 77, 3) := by decide +kernel
theorem dX5_clearText_7 : decode cX5_clearText 7 = .ok (.ireturn, 1) := by decide +kernel
set_option maxRecDepth 20000 in
theorem ggX5_perform_X2_read : GoodIn wsX5_perform wsX2_read := goodIn_r _ [10, 11, 12, 13, 14, 15, 16, 17, 18, 19, 20, 21, 22, 23, 24, 25, 26, 27, 9, 28, 29, 30, 31, 32, 33, 34, 35, 36, 37, 38, 39, 40, 41, 42, 43, 44, 45, 46, 47, 48, 49, 50, 51, 220, 221, 222, 223, 224, 225, 226, 227] (by decide +kernel) (by decide +kernel)
set_option maxRecDepth 20000 in
theorem gX5_perform_X2_read : GoodIn wsX5_perform (wsV RX5 80 RX2 yX2_read wsX2_read) := goodIn_app (goodIn_of _ (by decide +kernel)) ggX5_perform_X2_read
set_option maxRecDepth 20000 in
theorem ggX5_perform_X0_copyFrom : GoodIn wsX5_perform wsX0_copyFrom := goodIn_r _ [56, 57, 58, 59, 60, 61, 62, 63, 64, 65, 66, 18, 67, 20, 39, 68, 69, 70, 71, 72, 73, 74, 75, 76, 77, 78, 79, 80, 81, 82, 83, 84, 85, 228, 229, 230, 231, 232, 233, 234, 225, 226, 227, 235, 236, 237] (by decide +kernel) (by decide +kernel)
set_option maxRecDepth 20000 in
theorem gX5_perform_X0_copyFrom : GoodIn wsX5_perform (wsV RX5 43 RX0 yX0_copyFrom wsX0_copyFrom) := goodIn_app (goodIn_of _ (by decide +kernel)) ggX5_perform_X0_copyFrom
set_option maxRecDepth 20000 in
theorem ggX5_perform_X2_thingCount : GoodIn wsX5_perform wsX2_thingCount := goodIn_r _ [89, 11, 90, 91, 92, 18, 93, 20, 220, 221, 222, 223, 224, 225, 226, 227] (by decide +kernel) (by decide +kernel)
set_option maxRecDepth 20000 in
theorem gX5_perform_X2_thingCount : GoodIn wsX5_perform (wsV RX5 83 RX2 yX2_thingCount wsX2_thingCount) := goodIn_app (goodIn_of _ (by decide +kernel)) ggX5_perform_X2_thingCount
set_option maxRecDepth 20000 in
theorem ggX5_perform_X5_doThing : GoodIn wsX5_perform wsX5_doThing := goodIn_r _ [98, 1, 2, 99, 100, 101, 9, 102, 11, 103, 104, 105, 18, 106, 38, 39, 107, 108, 109, 55, 110, 57, 58, 111, 112, 113, 114, 20, 115, 91, 92, 93, 116, 22, 23, 24, 117, 35, 36, 37, 118, 119, 120, 121, 59, 62, 122, 123, 124, 125, 79, 126, 81, 82, 83, 127, 128, 129, 130, 63, 131, 132, 133, 134, 61, 135, 69, 70, 71, 136, 137, 138, 139, 140, 141, 142, 143, 144, 145, 146, 147, 148, 149, 150, 151, 152, 153, 154, 155, 156, 157, 158, 159, 60, 160, 161, 162, 163, 164, 165, 166, 167, 168, 169, 170, 171, 172, 173, 174, 175, 176, 177, 178, 179, 180, 181, 182, 183, 184, 185, 186, 187, 188, 189, 190, 191, 192, 193, 212, 213, 214, 215, 216, 217, 218, 219, 220, 221, 222, 223, 224, 225, 226, 227, 228, 229, 230, 231, 232, 233, 234, 235, 236, 237] (by decide +kernel) (by decide +kernel)
set_option maxRecDepth 20000 in
theorem gX5_perform_X5_doThing : GoodIn wsX5_perform (wsV RX5 86 RX5 yX5_doThing wsX5_doThing) := goodIn_app (goodIn_of _ (by decide +kernel)) ggX5_perform_X5_doThing
set_option maxRecDepth 20000 in
theorem ggX5_perform_X5_finishAct : GoodIn wsX5_perform wsX5_finishAct := goodIn_r _ [197, 198, 3, 2, 199, 200, 201, 202, 203, 204, 205, 206, 207, 208, 209, 210, 211, 53, 54, 55, 56, 57, 58, 59, 60, 61, 62, 63, 64, 65, 66, 18, 67, 20, 39, 68, 69, 70, 71, 72, 73, 74, 75, 76, 77, 78, 79, 80, 81, 82, 83, 84, 85, 52, 212, 213, 214, 215, 216, 217, 218, 219, 238, 239, 240, 228, 229, 230, 231, 232, 233, 234, 225, 226, 227, 235, 236, 237] (by decide +kernel) (by decide +kernel)
set_option maxRecDepth 20000 in
theorem gX5_perform_X5_finishAct : GoodIn wsX5_perform (wsV RX5 51 RX5 yX5_finishAct wsX5_finishAct) := goodIn_app (goodIn_of _ (by decide +kernel)) ggX5_perform_X5_finishAct
theorem dX5_perform_0 : decode cX5_perform 0 = .ok (.aload_n 0, 1) := by decide +kernel
theorem dX5_perform_1 : decode cX5_perform 1 = .ok (.getfield 32, 3) := by decide +kernel
theorem dX5_perform_4 : decode cX5_perform 4 = .ok (.invokevirtual 80, 3) := by decide +kernel
theorem dX5_perform_7 : decode cX5_perform 7 = .ok (.istore_n 1, 1) := by decide +kernel
theorem dX5_perform_8 : decode cX5_perform 8 = .ok (.iload_n 1, 1) := by decide +kernel
theorem dX5_perform_9 : decode cX5_perform 9 = .ok (.ifCond .lt 8, 3) := by decide +kernel
theorem dX5_perform_12 : decode cX5_perform 12 = .ok (.bipush (-100), 2) := by decide +kernel
theorem dX5_perform_14 : decode cX5_perform 14 = .ok (.iload_n 1, 1) := by decide +kernel
theorem dX5_perform_15 : decode cX5_perform 15 = .ok (.isub, 1) := by decide +kernel
theorem dX5_perform_16 : decode cX5_perform 16 = .ok (.ireturn, 1) := by decide +kernel
theorem dX5_perform_17 : decode cX5_perform 17 = .ok (.aload_n 0, 1) := by decide +kernel
theorem dX5_perform_18 : decode cX5_perform 18 = .ok (.getfield 16, 3) := by decide +kernel
theorem dX5_perform_21 : decode cX5_perform 21 = .ok (.aload_n 0, 1) := by decide +kernel
theorem dX5_perform_22 : decode cX5_perform 22 = .ok (.getfield 10, 3) := by decide +kernel
theorem dX5_perform_25 : decode cX5_perform 25 = .ok (.invokevirtual 43, 3) := by decide +kernel
theorem dX5_perform_28 : decode cX5_perform 28 = .ok (.aload_n 0, 1) := by decide +kernel
theorem dX5_perform_29 : decode cX5_perform 29 = .ok (.getfield 32, 3) := by decide +kernel
theorem dX5_perform_32 : decode cX5_perform 32 = .ok (.invokevirtual 83, 3) := by decide +kernel
theorem dX5_perform_35 : decode cX5_perform 35 = .ok (.istore_n 2, 1) := by decide +kernel
theorem dX5_perform_36 : decode cX5_perform 36 = .ok (.iconst 0, 1) := by decide +kernel
theorem dX5_perform_37 : decode cX5_perform 37 = .ok (.istore_n 3, 1) := by decide +kernel
theorem dX5_perform_38 : decode cX5_perform 38 = .ok (.iload_n 3, 1) := by decide +kernel
theorem dX5_perform_39 : decode cX5_perform 39 = .ok (.iload_n 2, 1) := by decide +kernel
theorem dX5_perform_40 : decode cX5_perform 40 = .ok (.if_icmp .ge 35, 3) := by decide +kernel
theorem dX5_perform_43 : decode cX5_perform 43 = .ok (.aload_n 0, 1) := by decide +kernel
theorem dX5_perform_44 : decode cX5_perform 44 = .ok (.iload_n 3, 1) := by decide +kernel
theorem dX5_perform_45 : decode cX5_perform 45 = .ok (.invokevirtual 86, 3) := by decide +kernel
theorem dX5_perform_48 : decode cX5_perform 48 = .ok (.istore 4, 2) := by decide +kernel
theorem dX5_perform_50 : decode cX5_perform 50 = .ok (.iload 4, 2) := by decide +kernel
theorem dX5_perform_52 : decode cX5_perform 52 = .ok (.ifCond .ge 17, 3) := by decide +kernel
theorem dX5_perform_55 : decode cX5_perform 55 = .ok (.aload_n 0, 1) := by decide +kernel
theorem dX5_perform_56 : decode cX5_perform 56 = .ok (.iload_n 3, 1) := by decide +kernel
theorem dX5_perform_57 : decode cX5_perform 57 = .ok (.putfield 36, 3) := by decide +kernel
theorem dX5_perform_60 : decode cX5_perform 60 = .ok (.aload_n 0, 1) := by decide +kernel
theorem dX5_perform_61 : decode cX5_perform 61 = .ok (.iload 4, 2) := by decide +kernel
theorem dX5_perform_63 : decode cX5_perform 63 = .ok (.putfield 40, 3) := by decide +kernel
theorem dX5_perform_66 : decode cX5_perform 66 = .ok (.bipush (-4), 2) := by decide +kernel
theorem dX5_perform_68 : decode cX5_perform 68 = .ok (.ireturn, 1) := by decide +kernel
theorem dX5_perform_69 : decode cX5_perform 69 = .ok (.iinc 3 1, 3) := by decide +kernel
theorem dX5_perform_72 : decode cX5_perform 72 = .ok (.goto (-34), 3) := by decide +kernel
theorem dX5_perform_75 : decode cX5_perform 75 = .ok (.aload_n 0, 1) := by decide +kernel
theorem dX5_perform_76 : decode cX5_perform 76 = .ok (.iload_n 2, 1) := by decide +kernel
theorem dX5_perform_77 : decode cX5_perform 77 = .ok (.invokevirtual 51, 3) := by decide +kernel
theorem dX5_perform_80 : decode cX5_perform 80 = .ok (.ireturn, 1) := by decide +kernel
theorem dX5_stopped_0 : decode cX5_stopped 0 = .ok (.iload_n 1, 1) := by decide +kernel
theorem dX5_stopped_1 : decode cX5_stopped 1 = .ok (.lookupswitch 37 #[(0, 27), (1, 32)], 27) := by decide +kernel
theorem dX5_stopped_28 : decode cX5_stopped 28 = .ok (.aload_n 0, 1) := by decide +kernel
theorem dX5_stopped_29 : decode cX5_stopped 29 = .ok (.getfield 36, 3) := by decide +kernel
theorem dX5_stopped_32 : decode cX5_stopped 32 = .ok (.ireturn, 1) := by decide +kernel
theorem dX5_stopped_33 : decode cX5_stopped 33 = .ok (.aload_n 0, 1) := by decide +kernel
theorem dX5_stopped_34 : decode cX5_stopped 34 = .ok (.getfield 40, 3) := by decide +kernel
theorem dX5_stopped_37 : decode cX5_stopped 37 = .ok (.ireturn, 1) := by decide +kernel
theorem dX5_stopped_38 : decode cX5_stopped 38 = .ok (.bipush (-2), 2) := by decide +kernel
theorem dX5_stopped_40 : decode cX5_stopped 40 = .ok (.ireturn, 1) := by decide +kernel
set_option maxRecDepth 20000 in
theorem ggX5_undo_X1_takeBackInto : GoodIn wsX5_undo wsX1_takeBackInto := goodIn_r _ [7, 8, 9, 10, 11, 6, 12, 13, 14, 15, 16, 17, 18, 19, 20, 21, 22, 23, 24, 25, 26, 27, 28, 29, 30, 31, 32, 33, 34, 35, 36, 37, 38, 39, 40, 41, 42, 43, 44, 45, 46, 47, 48, 49, 50, 51, 60, 61, 62, 63, 64, 65, 66, 67, 68, 69, 70, 71, 72, 73, 74, 75] (by decide +kernel) (by decide +kernel)
set_option maxRecDepth 20000 in
theorem gX5_undo_X1_takeBackInto : GoodIn wsX5_undo (wsV RX5 89 RX1 yX1_takeBackInto wsX1_takeBackInto) := goodIn_app (goodIn_of _ (by decide +kernel)) ggX5_undo_X1_takeBackInto
theorem dX5_undo_0 : decode cX5_undo 0 = .ok (.aload_n 0, 1) := by decide +kernel
theorem dX5_undo_1 : decode cX5_undo 1 = .ok (.getfield 25, 3) := by decide +kernel
theorem dX5_undo_4 : decode cX5_undo 4 = .ok (.aload_n 0, 1) := by decide +kernel
theorem dX5_undo_5 : decode cX5_undo 5 = .ok (.getfield 10, 3) := by decide +kernel
theorem dX5_undo_8 : decode cX5_undo 8 = .ok (.invokevirtual 89, 3) := by decide +kernel
theorem dX5_undo_11 : decode cX5_undo 11 = .ok (.ireturn, 1) := by decide +kernel
set_option maxRecDepth 20000 in
theorem ggX5_keep_X0_copyFrom : GoodIn wsX5_keep wsX0_copyFrom := goodIn_r _ [8, 9, 10, 11, 12, 13, 14, 15, 16, 17, 18, 19, 20, 21, 22, 23, 24, 25, 26, 27, 28, 29, 30, 31, 32, 33, 34, 35, 36, 37, 38, 39, 40, 57, 58, 59, 60, 61, 62, 63, 64, 65, 66, 67, 68, 69] (by decide +kernel) (by decide +kernel)
set_option maxRecDepth 20000 in
theorem gX5_keep_X0_copyFrom : GoodIn wsX5_keep (wsV RX5 43 RX0 yX0_copyFrom wsX0_copyFrom) := goodIn_app (goodIn_of _ (by decide +kernel)) ggX5_keep_X0_copyFrom
set_option maxRecDepth 20000 in
theorem ggX5_keep_X0_waiting : GoodIn wsX5_keep wsX0_waiting := goodIn_r _ [44, 14, 45, 46, 47, 34, 48, 37, 57, 58, 59, 60, 61, 62, 63, 67, 68, 69] (by decide +kernel) (by decide +kernel)
set_option maxRecDepth 20000 in
theorem gX5_keep_X0_waiting : GoodIn wsX5_keep (wsV RX5 97 RX0 yX0_waiting wsX0_waiting) := goodIn_app (goodIn_of _ (by decide +kernel)) ggX5_keep_X0_waiting
theorem dX5_keep_0 : decode cX5_keep 0 = .ok (.aload_n 0, 1) := by decide +kernel
theorem dX5_keep_1 : decode cX5_keep 1 = .ok (.getfield 19, 3) := by decide +kernel
theorem dX5_keep_4 : decode cX5_keep 4 = .ok (.aload_n 0, 1) := by decide +kernel
theorem dX5_keep_5 : decode cX5_keep 5 = .ok (.getfield 10, 3) := by decide +kernel
theorem dX5_keep_8 : decode cX5_keep 8 = .ok (.invokevirtual 43, 3) := by decide +kernel
theorem dX5_keep_11 : decode cX5_keep 11 = .ok (.aload_n 0, 1) := by decide +kernel
theorem dX5_keep_12 : decode cX5_keep 12 = .ok (.iconst 1, 1) := by decide +kernel
theorem dX5_keep_13 : decode cX5_keep 13 = .ok (.putfield 93, 3) := by decide +kernel
theorem dX5_keep_16 : decode cX5_keep 16 = .ok (.aload_n 0, 1) := by decide +kernel
theorem dX5_keep_17 : decode cX5_keep 17 = .ok (.getfield 10, 3) := by decide +kernel
theorem dX5_keep_20 : decode cX5_keep 20 = .ok (.invokevirtual 97, 3) := by decide +kernel
theorem dX5_keep_23 : decode cX5_keep 23 = .ok (.ireturn, 1) := by decide +kernel
set_option maxRecDepth 20000 in
theorem ggX5_restore_X0_copyFrom : GoodIn wsX5_restore wsX0_copyFrom := goodIn_r _ [8, 9, 10, 11, 12, 13, 14, 15, 16, 17, 18, 19, 20, 21, 22, 23, 24, 25, 26, 27, 28, 29, 30, 31, 32, 33, 34, 35, 36, 37, 38, 39, 40, 77, 78, 79, 80, 81, 82, 83, 84, 85, 86, 87, 88, 89] (by decide +kernel) (by decide +kernel)
set_option maxRecDepth 20000 in
theorem gX5_restore_X0_copyFrom : GoodIn wsX5_restore (wsV RX5 43 RX0 yX0_copyFrom wsX0_copyFrom) := goodIn_app (goodIn_of _ (by decide +kernel)) ggX5_restore_X0_copyFrom
set_option maxRecDepth 20000 in
theorem ggX5_restore_X0_waiting : GoodIn wsX5_restore wsX0_waiting := goodIn_r _ [44, 14, 45, 46, 47, 34, 48, 37, 77, 78, 79, 80, 81, 82, 83, 87, 88, 89] (by decide +kernel) (by decide +kernel)
set_option maxRecDepth 20000 in
theorem gX5_restore_X0_waiting : GoodIn wsX5_restore (wsV RX5 97 RX0 yX0_waiting wsX0_waiting) := goodIn_app (goodIn_of _ (by decide +kernel)) ggX5_restore_X0_waiting
set_option maxRecDepth 20000 in
theorem ggX5_restore_X5_finishAct : GoodIn wsX5_restore wsX5_finishAct := goodIn_r _ [53, 54, 55, 2, 56, 57, 58, 59, 60, 61, 62, 63, 64, 65, 66, 67, 68, 5, 6, 7, 8, 9, 10, 11, 12, 13, 14, 15, 16, 17, 18, 19, 20, 21, 22, 23, 24, 25, 26, 27, 28, 29, 30, 31, 32, 33, 34, 35, 36, 37, 38, 39, 40, 4, 69, 70, 71, 72, 73, 74, 75, 76, 90, 91, 92, 77, 78, 79, 80, 81, 82, 83, 84, 85, 86, 87, 88, 89] (by decide +kernel) (by decide +kernel)
set_option maxRecDepth 20000 in
theorem gX5_restore_X5_finishAct : GoodIn wsX5_restore (wsV RX5 51 RX5 yX5_finishAct wsX5_finishAct) := goodIn_app (goodIn_of _ (by decide +kernel)) ggX5_restore_X5_finishAct
theorem dX5_restore_0 : decode cX5_restore 0 = .ok (.aload_n 0, 1) := by decide +kernel
theorem dX5_restore_1 : decode cX5_restore 1 = .ok (.getfield 93, 3) := by decide +kernel
theorem dX5_restore_4 : decode cX5_restore 4 = .ok (.ifCond .ne 6, 3) := by decide +kernel
theorem dX5_restore_7 : decode cX5_restore 7 = .ok (.bipush (-5), 2) := by decide +kernel
theorem dX5_restore_9 : decode cX5_restore 9 = .ok (.ireturn, 1) := by decide +kernel
theorem dX5_restore_10 : decode cX5_restore 10 = .ok (.aload_n 0, 1) := by decide +kernel
theorem dX5_restore_11 : decode cX5_restore 11 = .ok (.getfield 16, 3) := by decide +kernel
theorem dX5_restore_14 : decode cX5_restore 14 = .ok (.aload_n 0, 1) := by decide +kernel
theorem dX5_restore_15 : decode cX5_restore 15 = .ok (.getfield 19, 3) := by decide +kernel
theorem dX5_restore_18 : decode cX5_restore 18 = .ok (.invokevirtual 43, 3) := by decide +kernel
theorem dX5_restore_21 : decode cX5_restore 21 = .ok (.aload_n 0, 1) := by decide +kernel
theorem dX5_restore_22 : decode cX5_restore 22 = .ok (.aload_n 0, 1) := by decide +kernel
theorem dX5_restore_23 : decode cX5_restore 23 = .ok (.getfield 16, 3) := by decide +kernel
theorem dX5_restore_26 : decode cX5_restore 26 = .ok (.invokevirtual 97, 3) := by decide +kernel
theorem dX5_restore_29 : decode cX5_restore 29 = .ok (.invokevirtual 51, 3) := by decide +kernel
theorem dX5_restore_32 : decode cX5_restore 32 = .ok (.ireturn, 1) := by decide +kernel
set_option maxRecDepth 20000 in
theorem ggX5_trader_X0_tellTrader : GoodIn wsX5_trader wsX0_tellTrader := goodIn_r _ [6, 7, 8, 9, 10, 11, 12, 13, 14, 15, 16, 17, 18, 19, 20, 21, 22, 23, 24, 25, 26, 27, 28, 29, 30, 31, 32, 33, 34, 43, 44, 45, 46, 47, 48, 49, 50, 51, 52] (by decide +kernel) (by decide +kernel)
set_option maxRecDepth 20000 in
theorem gX5_trader_X0_tellTrader : GoodIn wsX5_trader (wsV RX5 100 RX0 yX0_tellTrader wsX0_tellTrader) := goodIn_app (goodIn_of _ (by decide +kernel)) ggX5_trader_X0_tellTrader
theorem dX5_trader_0 : decode cX5_trader 0 = .ok (.aload_n 0, 1) := by decide +kernel
theorem dX5_trader_1 : decode cX5_trader 1 = .ok (.getfield 10, 3) := by decide +kernel
theorem dX5_trader_4 : decode cX5_trader 4 = .ok (.iload_n 1, 1) := by decide +kernel
theorem dX5_trader_5 : decode cX5_trader 5 = .ok (.iload_n 2, 1) := by decide +kernel
theorem dX5_trader_6 : decode cX5_trader 6 = .ok (.invokevirtual 100, 3) := by decide +kernel
theorem dX5_trader_9 : decode cX5_trader 9 = .ok (.ireturn, 1) := by decide +kernel
set_option maxRecDepth 20000 in
theorem ggX5_riddle_X0_tellRiddle : GoodIn wsX5_riddle wsX0_tellRiddle := goodIn_r _ [6, 7, 8, 9, 10, 11, 12, 13, 14, 15, 16, 17, 18, 19, 20, 21, 22, 23, 24, 25, 26, 27, 28, 29, 30, 31, 32, 33, 42, 43, 44, 45, 46, 47, 48, 49, 50, 51] (by decide +kernel) (by decide +kernel)
set_option maxRecDepth 20000 in
theorem gX5_riddle_X0_tellRiddle : GoodIn wsX5_riddle (wsV RX5 103 RX0 yX0_tellRiddle wsX0_tellRiddle) := goodIn_app (goodIn_of _ (by decide +kernel)) ggX5_riddle_X0_tellRiddle
theorem dX5_riddle_0 : decode cX5_riddle 0 = .ok (.aload_n 0, 1) := by decide +kernel
theorem dX5_riddle_1 : decode cX5_riddle 1 = .ok (.getfield 10, 3) := by decide +kernel
theorem dX5_riddle_4 : decode cX5_riddle 4 = .ok (.iload_n 1, 1) := by decide +kernel
theorem dX5_riddle_5 : decode cX5_riddle 5 = .ok (.iload_n 2, 1) := by decide +kernel
theorem dX5_riddle_6 : decode cX5_riddle 6 = .ok (.invokevirtual 103, 3) := by decide +kernel
theorem dX5_riddle_9 : decode cX5_riddle 9 = .ok (.ireturn, 1) := by decide +kernel
set_option maxRecDepth 20000 in
theorem ggX5_answer_X0_tellAnswer : GoodIn wsX5_answer wsX0_tellAnswer := goodIn_r _ [6, 7, 8, 9, 10, 11, 12, 13, 14, 15, 16, 17, 18, 19, 20, 21, 22, 23, 24, 25, 26, 27, 28, 29, 30, 31, 32, 41, 42, 43, 44, 45, 46, 47, 48, 49, 50, 51, 52, 53] (by decide +kernel) (by decide +kernel)
set_option maxRecDepth 20000 in
theorem gX5_answer_X0_tellAnswer : GoodIn wsX5_answer (wsV RX5 106 RX0 yX0_tellAnswer wsX0_tellAnswer) := goodIn_app (goodIn_of _ (by decide +kernel)) ggX5_answer_X0_tellAnswer
theorem dX5_answer_0 : decode cX5_answer 0 = .ok (.aload_n 0, 1) := by decide +kernel
theorem dX5_answer_1 : decode cX5_answer 1 = .ok (.getfield 10, 3) := by decide +kernel
theorem dX5_answer_4 : decode cX5_answer 4 = .ok (.iload_n 1, 1) := by decide +kernel
theorem dX5_answer_5 : decode cX5_answer 5 = .ok (.iload_n 2, 1) := by decide +kernel
theorem dX5_answer_6 : decode cX5_answer 6 = .ok (.invokevirtual 106, 3) := by decide +kernel
theorem dX5_answer_9 : decode cX5_answer 9 = .ok (.ireturn, 1) := by decide +kernel
set_option maxRecDepth 20000 in
theorem ggX5_waits_X0_waitingAt : GoodIn wsX5_waits wsX0_waitingAt := goodIn_r _ [6, 7, 8, 9, 10, 11, 12, 13, 14, 15, 24, 25, 26, 27, 28, 29, 30, 31, 32, 33] (by decide +kernel) (by decide +kernel)
set_option maxRecDepth 20000 in
theorem gX5_waits_X0_waitingAt : GoodIn wsX5_waits (wsV RX5 109 RX0 yX0_waitingAt wsX0_waitingAt) := goodIn_app (goodIn_of _ (by decide +kernel)) ggX5_waits_X0_waitingAt
theorem dX5_waits_0 : decode cX5_waits 0 = .ok (.iload_n 1, 1) := by decide +kernel
theorem dX5_waits_1 : decode cX5_waits 1 = .ok (.ifCond .ge 8, 3) := by decide +kernel
theorem dX5_waits_4 : decode cX5_waits 4 = .ok (.bipush (-2), 2) := by decide +kernel
theorem dX5_waits_6 : decode cX5_waits 6 = .ok (.goto 11, 3) := by decide +kernel
theorem dX5_waits_9 : decode cX5_waits 9 = .ok (.aload_n 0, 1) := by decide +kernel
theorem dX5_waits_10 : decode cX5_waits 10 = .ok (.getfield 10, 3) := by decide +kernel
theorem dX5_waits_13 : decode cX5_waits 13 = .ok (.iload_n 1, 1) := by decide +kernel
theorem dX5_waits_14 : decode cX5_waits 14 = .ok (.invokevirtual 109, 3) := by decide +kernel
theorem dX5_waits_17 : decode cX5_waits 17 = .ok (.ireturn, 1) := by decide +kernel
set_option maxRecDepth 20000 in
theorem ggX5_weigh_X0_told : GoodIn wsX5_weigh wsX0_told := goodIn_r _ [6, 7, 8, 9, 10, 11, 12, 13, 14, 15, 16, 17, 18, 27, 28, 29, 30, 31, 32, 33, 34, 35, 36] (by decide +kernel) (by decide +kernel)
set_option maxRecDepth 20000 in
theorem gX5_weigh_X0_told : GoodIn wsX5_weigh (wsV RX5 112 RX0 yX0_told wsX0_told) := goodIn_app (goodIn_of _ (by decide +kernel)) ggX5_weigh_X0_told
theorem dX5_weigh_0 : decode cX5_weigh 0 = .ok (.iload_n 1, 1) := by decide +kernel
theorem dX5_weigh_1 : decode cX5_weigh 1 = .ok (.ifCond .lt 8, 3) := by decide +kernel
theorem dX5_weigh_4 : decode cX5_weigh 4 = .ok (.iload_n 1, 1) := by decide +kernel
theorem dX5_weigh_5 : decode cX5_weigh 5 = .ok (.iconst 1, 1) := by decide +kernel
theorem dX5_weigh_6 : decode cX5_weigh 6 = .ok (.if_icmp .le 5, 3) := by decide +kernel
theorem dX5_weigh_9 : decode cX5_weigh 9 = .ok (.iconst (-1), 1) := by decide +kernel
theorem dX5_weigh_10 : decode cX5_weigh 10 = .ok (.ireturn, 1) := by decide +kernel
theorem dX5_weigh_11 : decode cX5_weigh 11 = .ok (.iload_n 2, 1) := by decide +kernel
theorem dX5_weigh_12 : decode cX5_weigh 12 = .ok (.iconst 1, 1) := by decide +kernel
theorem dX5_weigh_13 : decode cX5_weigh 13 = .ok (.if_icmp .lt 9, 3) := by decide +kernel
theorem dX5_weigh_16 : decode cX5_weigh 16 = .ok (.iload_n 2, 1) := by decide +kernel
theorem dX5_weigh_17 : decode cX5_weigh 17 = .ok (.bipush 99, 2) := by decide +kernel
theorem dX5_weigh_19 : decode cX5_weigh 19 = .ok (.if_icmp .le 6, 3) := by decide +kernel
theorem dX5_weigh_22 : decode cX5_weigh 22 = .ok (.bipush (-2), 2) := by decide +kernel
theorem dX5_weigh_24 : decode cX5_weigh 24 = .ok (.ireturn, 1) := by decide +kernel
theorem dX5_weigh_25 : decode cX5_weigh 25 = .ok (.aload_n 0, 1) := by decide +kernel
theorem dX5_weigh_26 : decode cX5_weigh 26 = .ok (.getfield 10, 3) := by decide +kernel
theorem dX5_weigh_29 : decode cX5_weigh 29 = .ok (.iload_n 1, 1) := by decide +kernel
theorem dX5_weigh_30 : decode cX5_weigh 30 = .ok (.iload_n 2, 1) := by decide +kernel
theorem dX5_weigh_31 : decode cX5_weigh 31 = .ok (.invokevirtual 112, 3) := by decide +kernel
theorem dX5_weigh_34 : decode cX5_weigh 34 = .ok (.ireturn, 1) := by decide +kernel
set_option maxRecDepth 20000 in
theorem ggX5_reason_X0_errorIfNotWaiting : GoodIn wsX5_reason wsX0_errorIfNotWaiting := goodIn_r _ [6, 7, 8, 9, 10, 11, 12, 13, 14, 15, 16, 17, 18, 19, 51, 52, 53, 54, 55, 56, 57, 58, 59, 60] (by decide +kernel) (by decide +kernel)
set_option maxRecDepth 20000 in
theorem gX5_reason_X0_errorIfNotWaiting : GoodIn wsX5_reason (wsV RX5 115 RX0 yX0_errorIfNotWaiting wsX0_errorIfNotWaiting) := goodIn_app (goodIn_of _ (by decide +kernel)) ggX5_reason_X0_errorIfNotWaiting
set_option maxRecDepth 20000 in
theorem ggX5_reason_X0_paymentFor : GoodIn wsX5_reason wsX0_paymentFor := goodIn_r _ [23, 7, 24, 14, 15, 16, 11, 17, 18, 19, 25, 26, 27, 5, 28, 29, 30, 31, 32, 33, 51, 52, 53, 54, 55, 56, 57, 58, 59, 60] (by decide +kernel) (by decide +kernel)
set_option maxRecDepth 20000 in
theorem gX5_reason_X0_paymentFor : GoodIn wsX5_reason (wsV RX5 118 RX0 yX0_paymentFor wsX0_paymentFor) := goodIn_app (goodIn_of _ (by decide +kernel)) ggX5_reason_X0_paymentFor
set_option maxRecDepth 20000 in
theorem ggX5_reason_X0_hindrance : GoodIn wsX5_reason wsX0_hindrance := goodIn_r _ [37, 7, 24, 38, 39, 32, 40, 41, 42, 14, 15, 16, 11, 17, 18, 19, 25, 26, 27, 5, 28, 29, 30, 31, 33, 51, 52, 53, 54, 55, 56, 57, 58, 59, 60] (by decide +kernel) (by decide +kernel)
set_option maxRecDepth 20000 in
theorem gX5_reason_X0_hindrance : GoodIn wsX5_reason (wsV RX5 121 RX0 yX0_hindrance wsX0_hindrance) := goodIn_app (goodIn_of _ (by decide +kernel)) ggX5_reason_X0_hindrance
theorem dX5_reason_0 : decode cX5_reason 0 = .ok (.aload_n 0, 1) := by decide +kernel
theorem dX5_reason_1 : decode cX5_reason 1 = .ok (.getfield 10, 3) := by decide +kernel
theorem dX5_reason_4 : decode cX5_reason 4 = .ok (.iload_n 1, 1) := by decide +kernel
theorem dX5_reason_5 : decode cX5_reason 5 = .ok (.invokevirtual 115, 3) := by decide +kernel
theorem dX5_reason_8 : decode cX5_reason 8 = .ok (.istore_n 2, 1) := by decide +kernel
theorem dX5_reason_9 : decode cX5_reason 9 = .ok (.iload_n 2, 1) := by decide +kernel
theorem dX5_reason_10 : decode cX5_reason 10 = .ok (.ifCond .ge 7, 3) := by decide +kernel
theorem dX5_reason_13 : decode cX5_reason 13 = .ok (.iload_n 2, 1) := by decide +kernel
theorem dX5_reason_14 : decode cX5_reason 14 = .ok (.goto 19, 3) := by decide +kernel
theorem dX5_reason_17 : decode cX5_reason 17 = .ok (.aload_n 0, 1) := by decide +kernel
theorem dX5_reason_18 : decode cX5_reason 18 = .ok (.getfield 10, 3) := by decide +kernel
theorem dX5_reason_21 : decode cX5_reason 21 = .ok (.iload_n 1, 1) := by decide +kernel
theorem dX5_reason_22 : decode cX5_reason 22 = .ok (.aload_n 0, 1) := by decide +kernel
theorem dX5_reason_23 : decode cX5_reason 23 = .ok (.getfield 10, 3) := by decide +kernel
theorem dX5_reason_26 : decode cX5_reason 26 = .ok (.iload_n 1, 1) := by decide +kernel
theorem dX5_reason_27 : decode cX5_reason 27 = .ok (.invokevirtual 118, 3) := by decide +kernel
theorem dX5_reason_30 : decode cX5_reason 30 = .ok (.invokevirtual 121, 3) := by decide +kernel
theorem dX5_reason_33 : decode cX5_reason 33 = .ok (.ireturn, 1) := by decide +kernel
set_option maxRecDepth 20000 in
theorem ggX5_settledIn_X0_errorIfNotWaiting : GoodIn wsX5_settledIn wsX0_errorIfNotWaiting := goodIn_r _ [7, 8, 9, 10, 11, 12, 13, 14, 15, 16, 17, 18, 19, 20, 132, 133, 134, 135, 136, 137, 138, 139, 140, 141] (by decide +kernel) (by decide +kernel)
set_option maxRecDepth 20000 in
theorem gX5_settledIn_X0_errorIfNotWaiting : GoodIn wsX5_settledIn (wsV RX5 115 RX0 yX0_errorIfNotWaiting wsX0_errorIfNotWaiting) := goodIn_app (goodIn_of _ (by decide +kernel)) ggX5_settledIn_X0_errorIfNotWaiting
set_option maxRecDepth 20000 in
theorem ggX5_settledIn_X0_copyFrom : GoodIn wsX5_settledIn wsX0_copyFrom := goodIn_r _ [24, 25, 26, 8, 27, 28, 29, 30, 31, 32, 33, 12, 34, 14, 20, 35, 36, 37, 38, 39, 40, 41, 42, 43, 44, 45, 46, 47, 48, 49, 50, 51, 52, 132, 133, 134, 135, 136, 137, 138, 139, 140, 141, 142, 143, 144] (by decide +kernel) (by decide +kernel)
set_option maxRecDepth 20000 in
theorem gX5_settledIn_X0_copyFrom : GoodIn wsX5_settledIn (wsV RX5 43 RX0 yX0_copyFrom wsX0_copyFrom) := goodIn_app (goodIn_of _ (by decide +kernel)) ggX5_settledIn_X0_copyFrom
set_option maxRecDepth 20000 in
theorem ggX5_settledIn_X0_playRound : GoodIn wsX5_settledIn wsX0_playRound := goodIn_r _ [56, 28, 29, 57, 36, 37, 38, 30, 15, 16, 17, 12, 18, 19, 20, 58, 59, 60, 46, 61, 49, 62, 63, 64, 65, 48, 66, 67, 68, 69, 50, 70, 71, 72, 6, 73, 74, 75, 76, 77, 8, 26, 78, 79, 80, 81, 27, 82, 83, 84, 85, 86, 87, 88, 89, 90, 91, 25, 92, 93, 94, 95, 96, 97, 98, 99, 100, 101, 102, 103, 104, 105, 106, 107, 108, 109, 110, 111, 112, 113, 114, 115, 116, 117, 118, 119, 120, 121, 122, 123, 132, 133, 134, 135, 136, 137, 138, 139, 140, 141, 142, 143, 144] (by decide +kernel) (by decide +kernel)
set_option maxRecDepth 20000 in
theorem gX5_settledIn_X0_playRound : GoodIn wsX5_settledIn (wsV RX5 124 RX0 yX0_playRound wsX0_playRound) := goodIn_app (goodIn_of _ (by decide +kernel)) ggX5_settledIn_X0_playRound
theorem dX5_settledIn_0 : decode cX5_settledIn 0 = .ok (.aload_n 0, 1) := by decide +kernel
theorem dX5_settledIn_1 : decode cX5_settledIn 1 = .ok (.getfield 10, 3) := by decide +kernel
theorem dX5_settledIn_4 : decode cX5_settledIn 4 = .ok (.iload_n 1, 1) := by decide +kernel
theorem dX5_settledIn_5 : decode cX5_settledIn 5 = .ok (.invokevirtual 115, 3) := by decide +kernel
theorem dX5_settledIn_8 : decode cX5_settledIn 8 = .ok (.istore_n 2, 1) := by decide +kernel
theorem dX5_settledIn_9 : decode cX5_settledIn 9 = .ok (.iload_n 2, 1) := by decide +kernel
theorem dX5_settledIn_10 : decode cX5_settledIn 10 = .ok (.ifCond .ge 5, 3) := by decide +kernel
theorem dX5_settledIn_13 : decode cX5_settledIn 13 = .ok (.iload_n 2, 1) := by decide +kernel
theorem dX5_settledIn_14 : decode cX5_settledIn 14 = .ok (.ireturn, 1) := by decide +kernel
theorem dX5_settledIn_15 : decode cX5_settledIn 15 = .ok (.aload_n 0, 1) := by decide +kernel
theorem dX5_settledIn_16 : decode cX5_settledIn 16 = .ok (.getfield 16, 3) := by decide +kernel
theorem dX5_settledIn_19 : decode cX5_settledIn 19 = .ok (.aload_n 0, 1) := by decide +kernel
theorem dX5_settledIn_20 : decode cX5_settledIn 20 = .ok (.getfield 10, 3) := by decide +kernel
theorem dX5_settledIn_23 : decode cX5_settledIn 23 = .ok (.invokevirtual 43, 3) := by decide +kernel
theorem dX5_settledIn_26 : decode cX5_settledIn 26 = .ok (.iconst 1, 1) := by decide +kernel
theorem dX5_settledIn_27 : decode cX5_settledIn 27 = .ok (.istore_n 3, 1) := by decide +kernel
theorem dX5_settledIn_28 : decode cX5_settledIn 28 = .ok (.iload_n 3, 1) := by decide +kernel
theorem dX5_settledIn_29 : decode cX5_settledIn 29 = .ok (.sipush 300, 3) := by decide +kernel
theorem dX5_settledIn_32 : decode cX5_settledIn 32 = .ok (.if_icmp .gt 30, 3) := by decide +kernel
theorem dX5_settledIn_35 : decode cX5_settledIn 35 = .ok (.aload_n 0, 1) := by decide +kernel
theorem dX5_settledIn_36 : decode cX5_settledIn 36 = .ok (.getfield 16, 3) := by decide +kernel
theorem dX5_settledIn_39 : decode cX5_settledIn 39 = .ok (.invokevirtual 124, 3) := by decide +kernel
theorem dX5_settledIn_42 : decode cX5_settledIn 42 = .ok (.pop, 1) := by decide +kernel
theorem dX5_settledIn_43 : decode cX5_settledIn 43 = .ok (.aload_n 0, 1) := by decide +kernel
theorem dX5_settledIn_44 : decode cX5_settledIn 44 = .ok (.getfield 16, 3) := by decide +kernel
theorem dX5_settledIn_47 : decode cX5_settledIn 47 = .ok (.iload_n 1, 1) := by decide +kernel
theorem dX5_settledIn_48 : decode cX5_settledIn 48 = .ok (.invokevirtual 115, 3) := by decide +kernel
theorem dX5_settledIn_51 : decode cX5_settledIn 51 = .ok (.ifCond .ge 5, 3) := by decide +kernel
theorem dX5_settledIn_54 : decode cX5_settledIn 54 = .ok (.iload_n 3, 1) := by decide +kernel
theorem dX5_settledIn_55 : decode cX5_settledIn 55 = .ok (.ireturn, 1) := by decide +kernel
theorem dX5_settledIn_56 : decode cX5_settledIn 56 = .ok (.iinc 3 1, 3) := by decide +kernel
theorem dX5_settledIn_59 : decode cX5_settledIn 59 = .ok (.goto (-31), 3) := by decide +kernel
theorem dX5_settledIn_62 : decode cX5_settledIn 62 = .ok (.bipush (-5), 2) := by decide +kernel
theorem dX5_settledIn_64 : decode cX5_settledIn 64 = .ok (.ireturn, 1) := by decide +kernel
set_option maxRecDepth 20000 in
theorem ggX5_ifRounds_X0_copyFrom : GoodIn wsX5_ifRounds wsX0_copyFrom := goodIn_r _ [7, 8, 9, 10, 11, 12, 13, 14, 15, 16, 17, 18, 19, 20, 21, 22, 23, 24, 25, 26, 27, 28, 29, 30, 31, 32, 33, 34, 35, 36, 37, 38, 39, 128, 129, 130, 131, 132, 133, 134, 135, 136, 137, 138, 139, 140] (by decide +kernel) (by decide +kernel)
set_option maxRecDepth 20000 in
theorem gX5_ifRounds_X0_copyFrom : GoodIn wsX5_ifRounds (wsV RX5 43 RX0 yX0_copyFrom wsX0_copyFrom) := goodIn_app (goodIn_of _ (by decide +kernel)) ggX5_ifRounds_X0_copyFrom
set_option maxRecDepth 20000 in
theorem ggX5_ifRounds_X0_setScalesRight : GoodIn wsX5_ifRounds wsX0_setScalesRight := goodIn_r _ [43, 11, 44, 45, 24, 46, 47, 48, 49, 18, 50, 51, 21, 52, 53, 54, 55, 128, 129, 130, 131, 132, 133, 134, 135, 136, 137] (by decide +kernel) (by decide +kernel)
set_option maxRecDepth 20000 in
theorem gX5_ifRounds_X0_setScalesRight : GoodIn wsX5_ifRounds (wsV RX5 62 RX0 yX0_setScalesRight wsX0_setScalesRight) := goodIn_app (goodIn_of _ (by decide +kernel)) ggX5_ifRounds_X0_setScalesRight
set_option maxRecDepth 20000 in
theorem ggX5_ifRounds_X0_playRound : GoodIn wsX5_ifRounds wsX0_playRound := goodIn_r _ [59, 12, 13, 60, 23, 24, 25, 14, 47, 48, 49, 18, 50, 51, 21, 61, 62, 63, 33, 64, 36, 65, 66, 67, 68, 35, 69, 70, 71, 72, 37, 73, 74, 75, 6, 76, 77, 78, 79, 80, 10, 9, 81, 82, 83, 84, 11, 85, 86, 87, 88, 89, 90, 91, 44, 45, 46, 8, 92, 93, 94, 95, 52, 53, 54, 55, 96, 97, 98, 99, 100, 101, 102, 103, 104, 105, 106, 107, 108, 109, 110, 111, 112, 113, 114, 115, 116, 117, 118, 119, 128, 129, 130, 131, 132, 133, 134, 135, 136, 137, 138, 139, 140] (by decide +kernel) (by decide +kernel)
set_option maxRecDepth 20000 in
theorem gX5_ifRounds_X0_playRound : GoodIn wsX5_ifRounds (wsV RX5 124 RX0 yX0_playRound wsX0_playRound) := goodIn_app (goodIn_of _ (by decide +kernel)) ggX5_ifRounds_X0_playRound
theorem dX5_ifRounds_0 : decode cX5_ifRounds 0 = .ok (.iload_n 1, 1) := by decide +kernel
theorem dX5_ifRounds_1 : decode cX5_ifRounds 1 = .ok (.iconst 1, 1) := by decide +kernel
theorem dX5_ifRounds_2 : decode cX5_ifRounds 2 = .ok (.if_icmp .lt 9, 3) := by decide +kernel
theorem dX5_ifRounds_5 : decode cX5_ifRounds 5 = .ok (.iload_n 1, 1) := by decide +kernel
theorem dX5_ifRounds_6 : decode cX5_ifRounds 6 = .ok (.bipush 99, 2) := by decide +kernel
theorem dX5_ifRounds_8 : decode cX5_ifRounds 8 = .ok (.if_icmp .le 6, 3) := by decide +kernel
theorem dX5_ifRounds_11 : decode cX5_ifRounds 11 = .ok (.bipush (-2), 2) := by decide +kernel
theorem dX5_ifRounds_13 : decode cX5_ifRounds 13 = .ok (.ireturn, 1) := by decide +kernel
theorem dX5_ifRounds_14 : decode cX5_ifRounds 14 = .ok (.aload_n 0, 1) := by decide +kernel
theorem dX5_ifRounds_15 : decode cX5_ifRounds 15 = .ok (.getfield 16, 3) := by decide +kernel
theorem dX5_ifRounds_18 : decode cX5_ifRounds 18 = .ok (.aload_n 0, 1) := by decide +kernel
theorem dX5_ifRounds_19 : decode cX5_ifRounds 19 = .ok (.getfield 10, 3) := by decide +kernel
theorem dX5_ifRounds_22 : decode cX5_ifRounds 22 = .ok (.invokevirtual 43, 3) := by decide +kernel
theorem dX5_ifRounds_25 : decode cX5_ifRounds 25 = .ok (.iload_n 2, 1) := by decide +kernel
theorem dX5_ifRounds_26 : decode cX5_ifRounds 26 = .ok (.ifCond .eq 11, 3) := by decide +kernel
theorem dX5_ifRounds_29 : decode cX5_ifRounds 29 = .ok (.aload_n 0, 1) := by decide +kernel
theorem dX5_ifRounds_30 : decode cX5_ifRounds 30 = .ok (.getfield 16, 3) := by decide +kernel
theorem dX5_ifRounds_33 : decode cX5_ifRounds 33 = .ok (.invokevirtual 62, 3) := by decide +kernel
theorem dX5_ifRounds_36 : decode cX5_ifRounds 36 = .ok (.pop, 1) := by decide +kernel
theorem dX5_ifRounds_37 : decode cX5_ifRounds 37 = .ok (.iconst 0, 1) := by decide +kernel
theorem dX5_ifRounds_38 : decode cX5_ifRounds 38 = .ok (.istore_n 3, 1) := by decide +kernel
theorem dX5_ifRounds_39 : decode cX5_ifRounds 39 = .ok (.iconst 0, 1) := by decide +kernel
theorem dX5_ifRounds_40 : decode cX5_ifRounds 40 = .ok (.istore 4, 2) := by decide +kernel
theorem dX5_ifRounds_42 : decode cX5_ifRounds 42 = .ok (.iload 4, 2) := by decide +kernel
theorem dX5_ifRounds_44 : decode cX5_ifRounds 44 = .ok (.iload_n 1, 1) := by decide +kernel
theorem dX5_ifRounds_45 : decode cX5_ifRounds 45 = .ok (.if_icmp .ge 19, 3) := by decide +kernel
theorem dX5_ifRounds_48 : decode cX5_ifRounds 48 = .ok (.iload_n 3, 1) := by decide +kernel
theorem dX5_ifRounds_49 : decode cX5_ifRounds 49 = .ok (.aload_n 0, 1) := by decide +kernel
theorem dX5_ifRounds_50 : decode cX5_ifRounds 50 = .ok (.getfield 16, 3) := by decide +kernel
theorem dX5_ifRounds_53 : decode cX5_ifRounds 53 = .ok (.invokevirtual 124, 3) := by decide +kernel
theorem dX5_ifRounds_56 : decode cX5_ifRounds 56 = .ok (.iadd, 1) := by decide +kernel
theorem dX5_ifRounds_57 : decode cX5_ifRounds 57 = .ok (.istore_n 3, 1) := by decide +kernel
theorem dX5_ifRounds_58 : decode cX5_ifRounds 58 = .ok (.iinc 4 1, 3) := by decide +kernel
theorem dX5_ifRounds_61 : decode cX5_ifRounds 61 = .ok (.goto (-19), 3) := by decide +kernel
theorem dX5_ifRounds_64 : decode cX5_ifRounds 64 = .ok (.iload_n 3, 1) := by decide +kernel
theorem dX5_ifRounds_65 : decode cX5_ifRounds 65 = .ok (.ireturn, 1) := by decide +kernel
set_option maxRecDepth 20000 in
theorem ggX5_richest_X0_richestTrader : GoodIn wsX5_richest wsX0_richestTrader := goodIn_r _ [6, 7, 8, 9, 10, 11, 12, 13, 14, 23, 24, 25, 26, 27, 28, 29, 30, 31, 32] (by decide +kernel) (by decide +kernel)
set_option maxRecDepth 20000 in
theorem gX5_richest_X0_richestTrader : GoodIn wsX5_richest (wsV RX5 127 RX0 yX0_richestTrader wsX0_richestTrader) := goodIn_app (goodIn_of _ (by decide +kernel)) ggX5_richest_X0_richestTrader
theorem dX5_richest_0 : decode cX5_richest 0 = .ok (.aload_n 0, 1) := by decide +kernel
theorem dX5_richest_1 : decode cX5_richest 1 = .ok (.getfield 10, 3) := by decide +kernel
theorem dX5_richest_4 : decode cX5_richest 4 = .ok (.invokevirtual 127, 3) := by decide +kernel
theorem dX5_richest_7 : decode cX5_richest 7 = .ok (.ireturn, 1) := by decide +kernel
set_option maxRecDepth 20000 in
theorem ggX5_account_X0_tellAccount : GoodIn wsX5_account wsX0_tellAccount := goodIn_r _ [6, 7, 8, 9, 10, 11, 12, 13, 14, 15, 16, 17, 18, 19, 20, 21, 22, 23, 24, 25, 26, 35, 36, 37, 38, 39, 40, 41, 42, 43, 44] (by decide +kernel) (by decide +kernel)
set_option maxRecDepth 20000 in
theorem gX5_account_X0_tellAccount : GoodIn wsX5_account (wsV RX5 130 RX0 yX0_tellAccount wsX0_tellAccount) := goodIn_app (goodIn_of _ (by decide +kernel)) ggX5_account_X0_tellAccount
theorem dX5_account_0 : decode cX5_account 0 = .ok (.aload_n 0, 1) := by decide +kernel
theorem dX5_account_1 : decode cX5_account 1 = .ok (.getfield 10, 3) := by decide +kernel
theorem dX5_account_4 : decode cX5_account 4 = .ok (.iload_n 1, 1) := by decide +kernel
theorem dX5_account_5 : decode cX5_account 5 = .ok (.invokevirtual 130, 3) := by decide +kernel
theorem dX5_account_8 : decode cX5_account 8 = .ok (.ireturn, 1) := by decide +kernel
set_option maxRecDepth 20000 in
theorem ggX5_count_X1_size : GoodIn wsX5_count wsX1_size := goodIn_r _ [8, 9, 67, 68, 69] (by decide +kernel) (by decide +kernel)
set_option maxRecDepth 20000 in
theorem gX5_count_X1_size : GoodIn wsX5_count (wsV RX5 133 RX1 yX1_size wsX1_size) := goodIn_app (goodIn_of _ (by decide +kernel)) ggX5_count_X1_size
set_option maxRecDepth 20000 in
theorem ggX5_count_X2_textLength : GoodIn wsX5_count wsX2_textLength := goodIn_r _ [14, 15, 70, 71, 72, 73, 74] (by decide +kernel) (by decide +kernel)
set_option maxRecDepth 20000 in
theorem gX5_count_X2_textLength : GoodIn wsX5_count (wsV RX5 136 RX2 yX2_textLength wsX2_textLength) := goodIn_app (goodIn_of _ (by decide +kernel)) ggX5_count_X2_textLength
set_option maxRecDepth 20000 in
theorem ggX5_count_X0_tellCount : GoodIn wsX5_count wsX0_tellCount := goodIn_r _ [20, 21, 22, 23, 24, 25, 26, 27, 28, 29, 30, 31, 32, 33, 34, 35, 36, 37, 38, 39, 40, 41, 42, 43, 44, 45, 46, 47, 48, 49, 50, 51, 52, 53, 54, 55, 56, 19, 57, 58, 75, 76, 77, 78, 79, 80, 81, 82, 83, 84, 85, 86, 87] (by decide +kernel) (by decide +kernel)
set_option maxRecDepth 20000 in
theorem gX5_count_X0_tellCount : GoodIn wsX5_count (wsV RX5 139 RX0 yX0_tellCount wsX0_tellCount) := goodIn_app (goodIn_of _ (by decide +kernel)) ggX5_count_X0_tellCount
theorem dX5_count_0 : decode cX5_count 0 = .ok (.iload_n 1, 1) := by decide +kernel
theorem dX5_count_1 : decode cX5_count 1 = .ok (.lookupswitch 43 #[(18, 27), (19, 35)], 27) := by decide +kernel
theorem dX5_count_28 : decode cX5_count 28 = .ok (.aload_n 0, 1) := by decide +kernel
theorem dX5_count_29 : decode cX5_count 29 = .ok (.getfield 25, 3) := by decide +kernel
theorem dX5_count_32 : decode cX5_count 32 = .ok (.invokevirtual 133, 3) := by decide +kernel
theorem dX5_count_35 : decode cX5_count 35 = .ok (.ireturn, 1) := by decide +kernel
theorem dX5_count_36 : decode cX5_count 36 = .ok (.aload_n 0, 1) := by decide +kernel
theorem dX5_count_37 : decode cX5_count 37 = .ok (.getfield 32, 3) := by decide +kernel
theorem dX5_count_40 : decode cX5_count 40 = .ok (.invokevirtual 136, 3) := by decide +kernel
theorem dX5_count_43 : decode cX5_count 43 = .ok (.ireturn, 1) := by decide +kernel
theorem dX5_count_44 : decode cX5_count 44 = .ok (.aload_n 0, 1) := by decide +kernel
theorem dX5_count_45 : decode cX5_count 45 = .ok (.getfield 10, 3) := by decide +kernel
theorem dX5_count_48 : decode cX5_count 48 = .ok (.iload_n 1, 1) := by decide +kernel
theorem dX5_count_49 : decode cX5_count 49 = .ok (.invokevirtual 139, 3) := by decide +kernel
theorem dX5_count_52 : decode cX5_count 52 = .ok (.ireturn, 1) := by decide +kernel
set_option maxRecDepth 20000 in
theorem ggX5_finishAct_X1_record : GoodIn wsX5_finishAct wsX1_record := goodIn_r _ [8, 9, 10, 11, 12, 13, 7, 14, 15, 16, 17, 18, 19, 20, 21, 22, 23, 24, 25, 26, 27, 28, 29, 30, 31, 32, 33, 34, 35, 36, 37, 38, 39, 40, 41, 42, 43, 44, 45, 46, 47, 48, 49, 50, 51, 52, 62, 63, 64, 65, 66, 67, 68, 69, 70, 71, 72, 73, 74, 75, 76, 77] (by decide +kernel) (by decide +kernel)
set_option maxRecDepth 20000 in
theorem gX5_finishAct_X1_record : GoodIn wsX5_finishAct (wsV RX5 142 RX1 yX1_record wsX1_record) := goodIn_app (goodIn_of _ (by decide +kernel)) ggX5_finishAct_X1_record
set_option maxRecDepth 20000 in
theorem ggX5_finishAct_X0_copyFrom : GoodIn wsX5_finishAct wsX0_copyFrom := goodIn_r _ [20, 21, 22, 23, 24, 25, 26, 27, 28, 29, 30, 31, 32, 33, 34, 35, 36, 37, 38, 39, 40, 41, 42, 43, 44, 45, 46, 47, 48, 49, 50, 51, 52, 65, 66, 67, 68, 69, 70, 71, 72, 73, 74, 75, 76, 77] (by decide +kernel) (by decide +kernel)
set_option maxRecDepth 20000 in
theorem gX5_finishAct_X0_copyFrom : GoodIn wsX5_finishAct (wsV RX5 43 RX0 yX0_copyFrom wsX0_copyFrom) := goodIn_app (goodIn_of _ (by decide +kernel)) ggX5_finishAct_X0_copyFrom
theorem dX5_finishAct_0 : decode cX5_finishAct 0 = .ok (.iload_n 1, 1) := by decide +kernel
theorem dX5_finishAct_1 : decode cX5_finishAct 1 = .ok (.ifCond .lt 25, 3) := by decide +kernel
theorem dX5_finishAct_4 : decode cX5_finishAct 4 = .ok (.aload_n 0, 1) := by decide +kernel
theorem dX5_finishAct_5 : decode cX5_finishAct 5 = .ok (.getfield 25, 3) := by decide +kernel
theorem dX5_finishAct_8 : decode cX5_finishAct 8 = .ok (.aload_n 0, 1) := by decide +kernel
theorem dX5_finishAct_9 : decode cX5_finishAct 9 = .ok (.getfield 10, 3) := by decide +kernel
theorem dX5_finishAct_12 : decode cX5_finishAct 12 = .ok (.invokevirtual 142, 3) := by decide +kernel
theorem dX5_finishAct_15 : decode cX5_finishAct 15 = .ok (.aload_n 0, 1) := by decide +kernel
theorem dX5_finishAct_16 : decode cX5_finishAct 16 = .ok (.getfield 10, 3) := by decide +kernel
theorem dX5_finishAct_19 : decode cX5_finishAct 19 = .ok (.aload_n 0, 1) := by decide +kernel
theorem dX5_finishAct_20 : decode cX5_finishAct 20 = .ok (.getfield 16, 3) := by decide +kernel
theorem dX5_finishAct_23 : decode cX5_finishAct 23 = .ok (.invokevirtual 43, 3) := by decide +kernel
theorem dX5_finishAct_26 : decode cX5_finishAct 26 = .ok (.iload_n 1, 1) := by decide +kernel
theorem dX5_finishAct_27 : decode cX5_finishAct 27 = .ok (.ireturn, 1) := by decide +kernel
set_option maxRecDepth 20000 in
theorem ggX5_doThing_X2_numberOf : GoodIn wsX5_doThing wsX2_numberOf := goodIn_r _ [7, 8, 9, 10, 11, 12, 13, 14, 15, 136, 137, 138, 139, 140, 141, 142, 143] (by decide +kernel) (by decide +kernel)
set_option maxRecDepth 20000 in
theorem gX5_doThing_X2_numberOf : GoodIn wsX5_doThing (wsV RX5 145 RX2 yX2_numberOf wsX2_numberOf) := goodIn_app (goodIn_of _ (by decide +kernel)) ggX5_doThing_X2_numberOf
set_option maxRecDepth 20000 in
theorem ggX5_doThing_X0_addRiddle : GoodIn wsX5_doThing wsX0_addRiddle := goodIn_r _ [20, 21, 22, 23, 24, 25, 12, 26, 27, 28, 29, 30, 31, 32, 33, 34, 35, 36, 37, 38, 39, 14, 15, 144, 145, 146, 147, 148, 149, 150, 141, 142, 143] (by decide +kernel) (by decide +kernel)
set_option maxRecDepth 20000 in
theorem gX5_doThing_X0_addRiddle : GoodIn wsX5_doThing (wsV RX5 47 RX0 yX0_addRiddle wsX0_addRiddle) := goodIn_app (goodIn_of _ (by decide +kernel)) ggX5_doThing_X0_addRiddle
set_option maxRecDepth 20000 in
theorem ggX5_doThing_X0_addAnswer : GoodIn wsX5_doThing wsX0_addAnswer := goodIn_r _ [43, 21, 22, 44, 45, 23, 24, 25, 12, 26, 27, 46, 10, 11, 13, 14, 15, 28, 29, 30, 31, 32, 33, 34, 35, 36, 37, 38, 39, 47, 48, 49, 50, 51, 52, 53, 54, 144, 145, 146, 147, 148, 149, 150, 141, 142, 143, 151, 152, 153] (by decide +kernel) (by decide +kernel)
set_option maxRecDepth 20000 in
theorem gX5_doThing_X0_addAnswer : GoodIn wsX5_doThing (wsV RX5 58 RX0 yX0_addAnswer wsX0_addAnswer) := goodIn_app (goodIn_of _ (by decide +kernel)) ggX5_doThing_X0_addAnswer
set_option maxRecDepth 20000 in
theorem ggX5_doThing_X0_playRounds : GoodIn wsX5_doThing wsX0_playRounds := goodIn_r _ [58, 59, 60, 61, 62, 19, 63, 64, 45, 65, 66, 67, 68, 46, 10, 11, 12, 13, 14, 15, 69, 70, 71, 50, 72, 53, 73, 74, 75, 76, 52, 77, 78, 79, 80, 54, 81, 82, 83, 84, 85, 86, 87, 88, 44, 22, 89, 90, 91, 92, 93, 94, 95, 96, 97, 98, 99, 100, 101, 102, 103, 21, 104, 105, 106, 107, 36, 37, 38, 39, 108, 109, 110, 111, 112, 113, 114, 115, 116, 117, 118, 119, 47, 48, 49, 51, 120, 121, 122, 123, 124, 125, 126, 127, 144, 145, 146, 147, 148, 149, 150, 141, 142, 143, 151, 152, 153] (by decide +kernel) (by decide +kernel)
set_option maxRecDepth 20000 in
theorem gX5_doThing_X0_playRounds : GoodIn wsX5_doThing (wsV RX5 70 RX0 yX0_playRounds wsX0_playRounds) := goodIn_app (goodIn_of _ (by decide +kernel)) ggX5_doThing_X0_playRounds
theorem dX5_doThing_0 : decode cX5_doThing 0 = .ok (.aload_n 0, 1) := by decide +kernel
theorem dX5_doThing_1 : decode cX5_doThing 1 = .ok (.getfield 32, 3) := by decide +kernel
theorem dX5_doThing_4 : decode cX5_doThing 4 = .ok (.iload_n 1, 1) := by decide +kernel
theorem dX5_doThing_5 : decode cX5_doThing 5 = .ok (.iconst 1, 1) := by decide +kernel
theorem dX5_doThing_6 : decode cX5_doThing 6 = .ok (.invokevirtual 145, 3) := by decide +kernel
theorem dX5_doThing_9 : decode cX5_doThing 9 = .ok (.istore_n 2, 1) := by decide +kernel
theorem dX5_doThing_10 : decode cX5_doThing 10 = .ok (.aload_n 0, 1) := by decide +kernel
theorem dX5_doThing_11 : decode cX5_doThing 11 = .ok (.getfield 32, 3) := by decide +kernel
theorem dX5_doThing_14 : decode cX5_doThing 14 = .ok (.iload_n 1, 1) := by decide +kernel
theorem dX5_doThing_15 : decode cX5_doThing 15 = .ok (.iconst 2, 1) := by decide +kernel
theorem dX5_doThing_16 : decode cX5_doThing 16 = .ok (.invokevirtual 145, 3) := by decide +kernel
theorem dX5_doThing_19 : decode cX5_doThing 19 = .ok (.istore_n 3, 1) := by decide +kernel
theorem dX5_doThing_20 : decode cX5_doThing 20 = .ok (.aload_n 0, 1) := by decide +kernel
theorem dX5_doThing_21 : decode cX5_doThing 21 = .ok (.getfield 32, 3) := by decide +kernel
theorem dX5_doThing_24 : decode cX5_doThing 24 = .ok (.iload_n 1, 1) := by decide +kernel
theorem dX5_doThing_25 : decode cX5_doThing 25 = .ok (.iconst 3, 1) := by decide +kernel
theorem dX5_doThing_26 : decode cX5_doThing 26 = .ok (.invokevirtual 145, 3) := by decide +kernel
theorem dX5_doThing_29 : decode cX5_doThing 29 = .ok (.istore 4, 2) := by decide +kernel
theorem dX5_doThing_31 : decode cX5_doThing 31 = .ok (.aload_n 0, 1) := by decide +kernel
theorem dX5_doThing_32 : decode cX5_doThing 32 = .ok (.getfield 32, 3) := by decide +kernel
theorem dX5_doThing_35 : decode cX5_doThing 35 = .ok (.iload_n 1, 1) := by decide +kernel
theorem dX5_doThing_36 : decode cX5_doThing 36 = .ok (.iconst 0, 1) := by decide +kernel
theorem dX5_doThing_37 : decode cX5_doThing 37 = .ok (.invokevirtual 145, 3) := by decide +kernel
theorem dX5_doThing_40 : decode cX5_doThing 40 = .ok (.lookupswitch 61 #[(0, 28), (1, 40)], 28) := by decide +kernel
theorem dX5_doThing_68 : decode cX5_doThing 68 = .ok (.aload_n 0, 1) := by decide +kernel
theorem dX5_doThing_69 : decode cX5_doThing 69 = .ok (.getfield 16, 3) := by decide +kernel
theorem dX5_doThing_72 : decode cX5_doThing 72 = .ok (.iload_n 2, 1) := by decide +kernel
theorem dX5_doThing_73 : decode cX5_doThing 73 = .ok (.iload_n 3, 1) := by decide +kernel
theorem dX5_doThing_74 : decode cX5_doThing 74 = .ok (.iload 4, 2) := by decide +kernel
theorem dX5_doThing_76 : decode cX5_doThing 76 = .ok (.invokevirtual 47, 3) := by decide +kernel
theorem dX5_doThing_79 : decode cX5_doThing 79 = .ok (.ireturn, 1) := by decide +kernel
theorem dX5_doThing_80 : decode cX5_doThing 80 = .ok (.aload_n 0, 1) := by decide +kernel
theorem dX5_doThing_81 : decode cX5_doThing 81 = .ok (.getfield 16, 3) := by decide +kernel
theorem dX5_doThing_84 : decode cX5_doThing 84 = .ok (.iload_n 2, 1) := by decide +kernel
theorem dX5_doThing_85 : decode cX5_doThing 85 = .ok (.iload_n 3, 1) := by decide +kernel
theorem dX5_doThing_86 : decode cX5_doThing 86 = .ok (.iload 4, 2) := by decide +kernel
theorem dX5_doThing_88 : decode cX5_doThing 88 = .ok (.aload_n 0, 1) := by decide +kernel
theorem dX5_doThing_89 : decode cX5_doThing 89 = .ok (.getfield 32, 3) := by decide +kernel
theorem dX5_doThing_92 : decode cX5_doThing 92 = .ok (.iload_n 1, 1) := by decide +kernel
theorem dX5_doThing_93 : decode cX5_doThing 93 = .ok (.iconst 4, 1) := by decide +kernel
theorem dX5_doThing_94 : decode cX5_doThing 94 = .ok (.invokevirtual 145, 3) := by decide +kernel
theorem dX5_doThing_97 : decode cX5_doThing 97 = .ok (.invokevirtual 58, 3) := by decide +kernel
theorem dX5_doThing_100 : decode cX5_doThing 100 = .ok (.ireturn, 1) := by decide +kernel
theorem dX5_doThing_101 : decode cX5_doThing 101 = .ok (.aload_n 0, 1) := by decide +kernel
theorem dX5_doThing_102 : decode cX5_doThing 102 = .ok (.getfield 16, 3) := by decide +kernel
theorem dX5_doThing_105 : decode cX5_doThing 105 = .ok (.iload_n 2, 1) := by decide +kernel
theorem dX5_doThing_106 : decode cX5_doThing 106 = .ok (.invokevirtual 70, 3) := by decide +kernel
theorem dX5_doThing_109 : decode cX5_doThing 109 = .ok (.ireturn, 1) := by decide +kernel
