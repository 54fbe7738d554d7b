theorem dX0_init_0 : decode cX0_init 0 = .ok (.aload_n 0, 1) := by decide +kernel
theorem dX0_init_1 : decode cX0_init 1 = .ok (.invokespecial 3, 3) := by decide +kernel
theorem dX0_init_4 : decode cX0_init 4 = .ok (.aload_n 0, 1) := by decide +kernel
theorem dX0_init_5 : decode cX0_init 5 = .ok (.bipush 36, 2) := by decide +kernel
theorem dX0_init_7 : decode cX0_init 7 = .ok (.newarray .int, 2) := by decide +kernel
theorem dX0_init_9 : decode cX0_init 9 = .ok (.putfield 9, 3) := by decide +kernel
theorem dX0_init_12 : decode cX0_init 12 = .ok (.aload_n 0, 1) := by decide +kernel
theorem dX0_init_13 : decode cX0_init 13 = .ok (.bipush 36, 2) := by decide +kernel
theorem dX0_init_15 : decode cX0_init 15 = .ok (.newarray .char, 2) := by decide +kernel
theorem dX0_init_17 : decode cX0_init 17 = .ok (.putfield 15, 3) := by decide +kernel
theorem dX0_init_20 : decode cX0_init 20 = .ok (.aload_n 0, 1) := by decide +kernel
theorem dX0_init_21 : decode cX0_init 21 = .ok (.bipush 36, 2) := by decide +kernel
theorem dX0_init_23 : decode cX0_init 23 = .ok (.newarray .char, 2) := by decide +kernel
theorem dX0_init_25 : decode cX0_init 25 = .ok (.putfield 19, 3) := by decide +kernel
theorem dX0_init_28 : decode cX0_init 28 = .ok (.aload_n 0, 1) := by decide +kernel
theorem dX0_init_29 : decode cX0_init 29 = .ok (.bipush 26, 2) := by decide +kernel
theorem dX0_init_31 : decode cX0_init 31 = .ok (.putfield 22, 3) := by decide +kernel
theorem dX0_init_34 : decode cX0_init 34 = .ok (.iconst 0, 1) := by decide +kernel
theorem dX0_init_35 : decode cX0_init 35 = .ok (.istore_n 1, 1) := by decide +kernel
theorem dX0_init_36 : decode cX0_init 36 = .ok (.iload_n 1, 1) := by decide +kernel
theorem dX0_init_37 : decode cX0_init 37 = .ok (.bipush 26, 2) := by decide +kernel
theorem dX0_init_39 : decode cX0_init 39 = .ok (.if_icmp .ge 35, 3) := by decide +kernel
theorem dX0_init_42 : decode cX0_init 42 = .ok (.aload_n 0, 1) := by decide +kernel
theorem dX0_init_43 : decode cX0_init 43 = .ok (.getfield 9, 3) := by decide +kernel
theorem dX0_init_46 : decode cX0_init 46 = .ok (.iload_n 1, 1) := by decide +kernel
theorem dX0_init_47 : decode cX0_init 47 = .ok (.iload_n 1, 1) := by decide +kernel
theorem dX0_init_48 : decode cX0_init 48 = .ok (.iastore, 1) := by decide +kernel
theorem dX0_init_49 : decode cX0_init 49 = .ok (.aload_n 0, 1) := by decide +kernel
theorem dX0_init_50 : decode cX0_init 50 = .ok (.getfield 15, 3) := by decide +kernel
theorem dX0_init_53 : decode cX0_init 53 = .ok (.iload_n 1, 1) := by decide +kernel
theorem dX0_init_54 : decode cX0_init 54 = .ok (.bipush 97, 2) := by decide +kernel
theorem dX0_init_56 : decode cX0_init 56 = .ok (.iload_n 1, 1) := by decide +kernel
theorem dX0_init_57 : decode cX0_init 57 = .ok (.iadd, 1) := by decide +kernel
theorem dX0_init_58 : decode cX0_init 58 = .ok (.i2c, 1) := by decide +kernel
theorem dX0_init_59 : decode cX0_init 59 = .ok (.castore, 1) := by decide +kernel
theorem dX0_init_60 : decode cX0_init 60 = .ok (.aload_n 0, 1) := by decide +kernel
theorem dX0_init_61 : decode cX0_init 61 = .ok (.getfield 19, 3) := by decide +kernel
theorem dX0_init_64 : decode cX0_init 64 = .ok (.iload_n 1, 1) := by decide +kernel
theorem dX0_init_65 : decode cX0_init 65 = .ok (.bipush 32, 2) := by decide +kernel
theorem dX0_init_67 : decode cX0_init 67 = .ok (.castore, 1) := by decide +kernel
theorem dX0_init_68 : decode cX0_init 68 = .ok (.iinc 1 1, 3) := by decide +kernel
theorem dX0_init_71 : decode cX0_init 71 = .ok (.goto (-35), 3) := by decide +kernel
theorem dX0_init_74 : decode cX0_init 74 = .ok (.return_, 1) := by decide +kernel
theorem dX0_copyFrom_0 : decode cX0_copyFrom 0 = .ok (.aload_n 1, 1) := by decide +kernel
theorem dX0_copyFrom_1 : decode cX0_copyFrom 1 = .ok (.getfield 9, 3) := by decide +kernel
theorem dX0_copyFrom_4 : decode cX0_copyFrom 4 = .ok (.iconst 0, 1) := by decide +kernel
theorem dX0_copyFrom_5 : decode cX0_copyFrom 5 = .ok (.aload_n 0, 1) := by decide +kernel
theorem dX0_copyFrom_6 : decode cX0_copyFrom 6 = .ok (.getfield 9, 3) := by decide +kernel
theorem dX0_copyFrom_9 : decode cX0_copyFrom 9 = .ok (.iconst 0, 1) := by decide +kernel
theorem dX0_copyFrom_10 : decode cX0_copyFrom 10 = .ok (.bipush 36, 2) := by decide +kernel
theorem dX0_copyFrom_12 : decode cX0_copyFrom 12 = .ok (.invokestatic 26, 3) := by decide +kernel
theorem dX0_copyFrom_15 : decode cX0_copyFrom 15 = .ok (.aload_n 1, 1) := by decide +kernel
theorem dX0_copyFrom_16 : decode cX0_copyFrom 16 = .ok (.getfield 15, 3) := by decide +kernel
theorem dX0_copyFrom_19 : decode cX0_copyFrom 19 = .ok (.iconst 0, 1) := by decide +kernel
theorem dX0_copyFrom_20 : decode cX0_copyFrom 20 = .ok (.aload_n 0, 1) := by decide +kernel
theorem dX0_copyFrom_21 : decode cX0_copyFrom 21 = .ok (.getfield 15, 3) := by decide +kernel
theorem dX0_copyFrom_24 : decode cX0_copyFrom 24 = .ok (.iconst 0, 1) := by decide +kernel
theorem dX0_copyFrom_25 : decode cX0_copyFrom 25 = .ok (.bipush 36, 2) := by decide +kernel
theorem dX0_copyFrom_27 : decode cX0_copyFrom 27 = .ok (.invokestatic 26, 3) := by decide +kernel
theorem dX0_copyFrom_30 : decode cX0_copyFrom 30 = .ok (.aload_n 1, 1) := by decide +kernel
theorem dX0_copyFrom_31 : decode cX0_copyFrom 31 = .ok (.getfield 19, 3) := by decide +kernel
theorem dX0_copyFrom_34 : decode cX0_copyFrom 34 = .ok (.iconst 0, 1) := by decide +kernel
theorem dX0_copyFrom_35 : decode cX0_copyFrom 35 = .ok (.aload_n 0, 1) := by decide +kernel
theorem dX0_copyFrom_36 : decode cX0_copyFrom 36 = .ok (.getfield 19, 3) := by decide +kernel
theorem dX0_copyFrom_39 : decode cX0_copyFrom 39 = .ok (.iconst 0, 1) := by decide +kernel
theorem dX0_copyFrom_40 : decode cX0_copyFrom 40 = .ok (.bipush 36, 2) := by decide +kernel
theorem dX0_copyFrom_42 : decode cX0_copyFrom 42 = .ok (.invokestatic 26, 3) := by decide +kernel
theorem dX0_copyFrom_45 : decode cX0_copyFrom 45 = .ok (.aload_n 0, 1) := by decide +kernel
theorem dX0_copyFrom_46 : decode cX0_copyFrom 46 = .ok (.aload_n 1, 1) := by decide +kernel
theorem dX0_copyFrom_47 : decode cX0_copyFrom 47 = .ok (.getfield 22, 3) := by decide +kernel
theorem dX0_copyFrom_50 : decode cX0_copyFrom 50 = .ok (.putfield 22, 3) := by decide +kernel
theorem dX0_copyFrom_53 : decode cX0_copyFrom 53 = .ok (.return_, 1) := by decide +kernel
theorem dX0_size_0 : decode cX0_size 0 = .ok (.aload_n 0, 1) := by decide +kernel
theorem dX0_size_1 : decode cX0_size 1 = .ok (.getfield 22, 3) := by decide +kernel
theorem dX0_size_4 : decode cX0_size 4 = .ok (.ireturn, 1) := by decide +kernel
theorem dX0_isFull_0 : decode cX0_isFull 0 = .ok (.aload_n 0, 1) := by decide +kernel
theorem dX0_isFull_1 : decode cX0_isFull 1 = .ok (.getfield 22, 3) := by decide +kernel
theorem dX0_isFull_4 : decode cX0_isFull 4 = .ok (.bipush 36, 2) := by decide +kernel
theorem dX0_isFull_6 : decode cX0_isFull 6 = .ok (.if_icmp .lt 7, 3) := by decide +kernel
theorem dX0_isFull_9 : decode cX0_isFull 9 = .ok (.iconst 1, 1) := by decide +kernel
theorem dX0_isFull_10 : decode cX0_isFull 10 = .ok (.goto 4, 3) := by decide +kernel
theorem dX0_isFull_13 : decode cX0_isFull 13 = .ok (.iconst 0, 1) := by decide +kernel
theorem dX0_isFull_14 : decode cX0_isFull 14 = .ok (.ireturn, 1) := by decide +kernel
theorem dX0_hasPlace_0 : decode cX0_hasPlace 0 = .ok (.iload_n 1, 1) := by decide +kernel
theorem dX0_hasPlace_1 : decode cX0_hasPlace 1 = .ok (.ifCond .lt 15, 3) := by decide +kernel
theorem dX0_hasPlace_4 : decode cX0_hasPlace 4 = .ok (.iload_n 1, 1) := by decide +kernel
theorem dX0_hasPlace_5 : decode cX0_hasPlace 5 = .ok (.aload_n 0, 1) := by decide +kernel
theorem dX0_hasPlace_6 : decode cX0_hasPlace 6 = .ok (.getfield 22, 3) := by decide +kernel
theorem dX0_hasPlace_9 : decode cX0_hasPlace 9 = .ok (.if_icmp .ge 7, 3) := by decide +kernel
theorem dX0_hasPlace_12 : decode cX0_hasPlace 12 = .ok (.iconst 1, 1) := by decide +kernel
theorem dX0_hasPlace_13 : decode cX0_hasPlace 13 = .ok (.goto 4, 3) := by decide +kernel
theorem dX0_hasPlace_16 : decode cX0_hasPlace 16 = .ok (.iconst 0, 1) := by decide +kernel
theorem dX0_hasPlace_17 : decode cX0_hasPlace 17 = .ok (.ireturn, 1) := by decide +kernel
set_option maxRecDepth 20000 in
theorem ggX0_letterAt_X0_hasPlace : GoodIn wsX0_letterAt wsX0_hasPlace := goodIn_r _ [6, 7, 8, 9, 10, 11] (by decide +kernel) (by decide +kernel)
set_option maxRecDepth 20000 in
theorem gX0_letterAt_X0_hasPlace : GoodIn wsX0_letterAt (wsV RX0 32 RX0 yX0_hasPlace wsX0_hasPlace) := goodIn_app (goodIn_of _ (by decide +kernel)) ggX0_letterAt_X0_hasPlace
theorem dX0_letterAt_0 : decode cX0_letterAt 0 = .ok (.aload_n 0, 1) := by decide +kernel
theorem dX0_letterAt_1 : decode cX0_letterAt 1 = .ok (.iload_n 1, 1) := by decide +kernel
theorem dX0_letterAt_2 : decode cX0_letterAt 2 = .ok (.invokevirtual 32, 3) := by decide +kernel
theorem dX0_letterAt_5 : decode cX0_letterAt 5 = .ok (.ifCond .eq 12, 3) := by decide +kernel
theorem dX0_letterAt_8 : decode cX0_letterAt 8 = .ok (.aload_n 0, 1) := by decide +kernel
theorem dX0_letterAt_9 : decode cX0_letterAt 9 = .ok (.getfield 9, 3) := by decide +kernel
theorem dX0_letterAt_12 : decode cX0_letterAt 12 = .ok (.iload_n 1, 1) := by decide +kernel
theorem dX0_letterAt_13 : decode cX0_letterAt 13 = .ok (.iaload, 1) := by decide +kernel
theorem dX0_letterAt_14 : decode cX0_letterAt 14 = .ok (.goto 4, 3) := by decide +kernel
theorem dX0_letterAt_17 : decode cX0_letterAt 17 = .ok (.iconst (-1), 1) := by decide +kernel
theorem dX0_letterAt_18 : decode cX0_letterAt 18 = .ok (.ireturn, 1) := by decide +kernel
theorem dX0_firstOf_0 : decode cX0_firstOf 0 = .ok (.iload_n 1, 1) := by decide +kernel
theorem dX0_firstOf_1 : decode cX0_firstOf 1 = .ok (.ifCond .lt 20, 3) := by decide +kernel
theorem dX0_firstOf_4 : decode cX0_firstOf 4 = .ok (.iload_n 1, 1) := by decide +kernel
theorem dX0_firstOf_5 : decode cX0_firstOf 5 = .ok (.aload_n 0, 1) := by decide +kernel
theorem dX0_firstOf_6 : decode cX0_firstOf 6 = .ok (.getfield 22, 3) := by decide +kernel
theorem dX0_firstOf_9 : decode cX0_firstOf 9 = .ok (.if_icmp .ge 12, 3) := by decide +kernel
theorem dX0_firstOf_12 : decode cX0_firstOf 12 = .ok (.aload_n 0, 1) := by decide +kernel
theorem dX0_firstOf_13 : decode cX0_firstOf 13 = .ok (.getfield 15, 3) := by decide +kernel
theorem dX0_firstOf_16 : decode cX0_firstOf 16 = .ok (.iload_n 1, 1) := by decide +kernel
theorem dX0_firstOf_17 : decode cX0_firstOf 17 = .ok (.caload, 1) := by decide +kernel
theorem dX0_firstOf_18 : decode cX0_firstOf 18 = .ok (.goto 5, 3) := by decide +kernel
theorem dX0_firstOf_21 : decode cX0_firstOf 21 = .ok (.bipush 32, 2) := by decide +kernel
theorem dX0_firstOf_23 : decode cX0_firstOf 23 = .ok (.ireturn, 1) := by decide +kernel
theorem dX0_secondOf_0 : decode cX0_secondOf 0 = .ok (.iload_n 1, 1) := by decide +kernel
theorem dX0_secondOf_1 : decode cX0_secondOf 1 = .ok (.ifCond .lt 20, 3) := by decide +kernel
theorem dX0_secondOf_4 : decode cX0_secondOf 4 = .ok (.iload_n 1, 1) := by decide +kernel
theorem dX0_secondOf_5 : decode cX0_secondOf 5 = .ok (.aload_n 0, 1) := by decide +kernel
theorem dX0_secondOf_6 : decode cX0_secondOf 6 = .ok (.getfield 22, 3) := by decide +kernel
theorem dX0_secondOf_9 : decode cX0_secondOf 9 = .ok (.if_icmp .ge 12, 3) := by decide +kernel
theorem dX0_secondOf_12 : decode cX0_secondOf 12 = .ok (.aload_n 0, 1) := by decide +kernel
theorem dX0_secondOf_13 : decode cX0_secondOf 13 = .ok (.getfield 19, 3) := by decide +kernel
theorem dX0_secondOf_16 : decode cX0_secondOf 16 = .ok (.iload_n 1, 1) := by decide +kernel
theorem dX0_secondOf_17 : decode cX0_secondOf 17 = .ok (.caload, 1) := by decide +kernel
theorem dX0_secondOf_18 : decode cX0_secondOf 18 = .ok (.goto 5, 3) := by decide +kernel
theorem dX0_secondOf_21 : decode cX0_secondOf 21 = .ok (.bipush 32, 2) := by decide +kernel
theorem dX0_secondOf_23 : decode cX0_secondOf 23 = .ok (.ireturn, 1) := by decide +kernel
theorem dX0_letterOfSigns_0 : decode cX0_letterOfSigns 0 = .ok (.iconst 0, 1) := by decide +kernel
theorem dX0_letterOfSigns_1 : decode cX0_letterOfSigns 1 = .ok (.istore_n 3, 1) := by decide +kernel
theorem dX0_letterOfSigns_2 : decode cX0_letterOfSigns 2 = .ok (.iload_n 3, 1) := by decide +kernel
theorem dX0_letterOfSigns_3 : decode cX0_letterOfSigns 3 = .ok (.aload_n 0, 1) := by decide +kernel
theorem dX0_letterOfSigns_4 : decode cX0_letterOfSigns 4 = .ok (.getfield 22, 3) := by decide +kernel
theorem dX0_letterOfSigns_7 : decode cX0_letterOfSigns 7 = .ok (.if_icmp .ge 31, 3) := by decide +kernel
theorem dX0_letterOfSigns_10 : decode cX0_letterOfSigns 10 = .ok (.aload_n 0, 1) := by decide +kernel
theorem dX0_letterOfSigns_11 : decode cX0_letterOfSigns 11 = .ok (.getfield 15, 3) := by decide +kernel
theorem dX0_letterOfSigns_14 : decode cX0_letterOfSigns 14 = .ok (.iload_n 3, 1) := by decide +kernel
theorem dX0_letterOfSigns_15 : decode cX0_letterOfSigns 15 = .ok (.caload, 1) := by decide +kernel
theorem dX0_letterOfSigns_16 : decode cX0_letterOfSigns 16 = .ok (.iload_n 1, 1) := by decide +kernel
theorem dX0_letterOfSigns_17 : decode cX0_letterOfSigns 17 = .ok (.if_icmp .ne 15, 3) := by decide +kernel
theorem dX0_letterOfSigns_20 : decode cX0_letterOfSigns 20 = .ok (.aload_n 0, 1) := by decide +kernel
theorem dX0_letterOfSigns_21 : decode cX0_letterOfSigns 21 = .ok (.getfield 19, 3) := by decide +kernel
theorem dX0_letterOfSigns_24 : decode cX0_letterOfSigns 24 = .ok (.iload_n 3, 1) := by decide +kernel
theorem dX0_letterOfSigns_25 : decode cX0_letterOfSigns 25 = .ok (.caload, 1) := by decide +kernel
theorem dX0_letterOfSigns_26 : decode cX0_letterOfSigns 26 = .ok (.iload_n 2, 1) := by decide +kernel
theorem dX0_letterOfSigns_27 : decode cX0_letterOfSigns 27 = .ok (.if_icmp .ne 5, 3) := by decide +kernel
theorem dX0_letterOfSigns_30 : decode cX0_letterOfSigns 30 = .ok (.iload_n 3, 1) := by decide +kernel
theorem dX0_letterOfSigns_31 : decode cX0_letterOfSigns 31 = .ok (.ireturn, 1) := by decide +kernel
theorem dX0_letterOfSigns_32 : decode cX0_letterOfSigns 32 = .ok (.iinc 3 1, 3) := by decide +kernel
theorem dX0_letterOfSigns_35 : decode cX0_letterOfSigns 35 = .ok (.goto (-33), 3) := by decide +kernel
theorem dX0_letterOfSigns_38 : decode cX0_letterOfSigns 38 = .ok (.iconst (-1), 1) := by decide +kernel
theorem dX0_letterOfSigns_39 : decode cX0_letterOfSigns 39 = .ok (.ireturn, 1) := by decide +kernel
set_option maxRecDepth 20000 in
theorem ggX0_insert_X0_isFull : GoodIn wsX0_insert wsX0_isFull := goodIn_r _ [9, 2, 18, 19, 20, 21] (by decide +kernel) (by decide +kernel)
set_option maxRecDepth 20000 in
theorem gX0_insert_X0_isFull : GoodIn wsX0_insert (wsV RX0 36 RX0 yX0_isFull wsX0_isFull) := goodIn_app (goodIn_of _ (by decide +kernel)) ggX0_insert_X0_isFull
set_option maxRecDepth 20000 in
theorem ggX0_insert_X0_shift : GoodIn wsX0_insert wsX0_shift := goodIn_ca (goodIn_r _ [13, 1, 14, 15, 16, 8, 17, 2, 18, 19, 20, 21] (by decide +kernel) (by decide +kernel)) (goodIn_sub (fun _ h => List.mem_cons_of_mem _ (List.mem_append_right _ h)) (by decide +kernel))
set_option maxRecDepth 20000 in
theorem gX0_insert_X0_shift : GoodIn wsX0_insert (wsV RX0 40 RX0 yX0_shift wsX0_shift) := goodIn_app (goodIn_of _ (by decide +kernel)) ggX0_insert_X0_shift
theorem dX0_insert_0 : decode cX0_insert 0 = .ok (.aload_n 0, 1) := by decide +kernel
theorem dX0_insert_1 : decode cX0_insert 1 = .ok (.invokevirtual 36, 3) := by decide +kernel
theorem dX0_insert_4 : decode cX0_insert 4 = .ok (.ifCond .eq 4, 3) := by decide +kernel
theorem dX0_insert_7 : decode cX0_insert 7 = .ok (.return_, 1) := by decide +kernel
theorem dX0_insert_8 : decode cX0_insert 8 = .ok (.aload_n 0, 1) := by decide +kernel
theorem dX0_insert_9 : decode cX0_insert 9 = .ok (.getfield 9, 3) := by decide +kernel
theorem dX0_insert_12 : decode cX0_insert 12 = .ok (.aload_n 0, 1) := by decide +kernel
theorem dX0_insert_13 : decode cX0_insert 13 = .ok (.getfield 22, 3) := by decide +kernel
theorem dX0_insert_16 : decode cX0_insert 16 = .ok (.aload_n 0, 1) := by decide +kernel
theorem dX0_insert_17 : decode cX0_insert 17 = .ok (.getfield 22, 3) := by decide +kernel
theorem dX0_insert_20 : decode cX0_insert 20 = .ok (.iastore, 1) := by decide +kernel
theorem dX0_insert_21 : decode cX0_insert 21 = .ok (.aload_n 0, 1) := by decide +kernel
theorem dX0_insert_22 : decode cX0_insert 22 = .ok (.getfield 15, 3) := by decide +kernel
theorem dX0_insert_25 : decode cX0_insert 25 = .ok (.aload_n 0, 1) := by decide +kernel
theorem dX0_insert_26 : decode cX0_insert 26 = .ok (.getfield 22, 3) := by decide +kernel
theorem dX0_insert_29 : decode cX0_insert 29 = .ok (.iload_n 1, 1) := by decide +kernel
theorem dX0_insert_30 : decode cX0_insert 30 = .ok (.castore, 1) := by decide +kernel
theorem dX0_insert_31 : decode cX0_insert 31 = .ok (.aload_n 0, 1) := by decide +kernel
theorem dX0_insert_32 : decode cX0_insert 32 = .ok (.getfield 19, 3) := by decide +kernel
theorem dX0_insert_35 : decode cX0_insert 35 = .ok (.aload_n 0, 1) := by decide +kernel
theorem dX0_insert_36 : decode cX0_insert 36 = .ok (.getfield 22, 3) := by decide +kernel
theorem dX0_insert_39 : decode cX0_insert 39 = .ok (.iload_n 2, 1) := by decide +kernel
theorem dX0_insert_40 : decode cX0_insert 40 = .ok (.castore, 1) := by decide +kernel
theorem dX0_insert_41 : decode cX0_insert 41 = .ok (.aload_n 0, 1) := by decide +kernel
theorem dX0_insert_42 : decode cX0_insert 42 = .ok (.dup, 1) := by decide +kernel
theorem dX0_insert_43 : decode cX0_insert 43 = .ok (.getfield 22, 3) := by decide +kernel
theorem dX0_insert_46 : decode cX0_insert 46 = .ok (.iconst 1, 1) := by decide +kernel
theorem dX0_insert_47 : decode cX0_insert 47 = .ok (.iadd, 1) := by decide +kernel
theorem dX0_insert_48 : decode cX0_insert 48 = .ok (.putfield 22, 3) := by decide +kernel
theorem dX0_insert_51 : decode cX0_insert 51 = .ok (.aload_n 0, 1) := by decide +kernel
theorem dX0_insert_52 : decode cX0_insert 52 = .ok (.aload_n 0, 1) := by decide +kernel
theorem dX0_insert_53 : decode cX0_insert 53 = .ok (.getfield 22, 3) := by decide +kernel
theorem dX0_insert_56 : decode cX0_insert 56 = .ok (.iconst 1, 1) := by decide +kernel
theorem dX0_insert_57 : decode cX0_insert 57 = .ok (.isub, 1) := by decide +kernel
theorem dX0_insert_58 : decode cX0_insert 58 = .ok (.iload_n 3, 1) := by decide +kernel
theorem dX0_insert_59 : decode cX0_insert 59 = .ok (.invokevirtual 40, 3) := by decide +kernel
theorem dX0_insert_62 : decode cX0_insert 62 = .ok (.return_, 1) := by decide +kernel
set_option maxRecDepth 20000 in
theorem ggX0_shift_X0_hasPlace : GoodIn wsX0_shift wsX0_hasPlace := goodIn_r _ [6, 7, 8, 9, 10, 11] (by decide +kernel) (by decide +kernel)
set_option maxRecDepth 20000 in
theorem gX0_shift_X0_hasPlace : GoodIn wsX0_shift (wsV RX0 32 RX0 yX0_hasPlace wsX0_hasPlace) := goodIn_app (goodIn_of _ (by decide +kernel)) ggX0_shift_X0_hasPlace
theorem dX0_shift_0 : decode cX0_shift 0 = .ok (.aload_n 0, 1) := by decide +kernel
theorem dX0_shift_1 : decode cX0_shift 1 = .ok (.iload_n 1, 1) := by decide +kernel
theorem dX0_shift_2 : decode cX0_shift 2 = .ok (.invokevirtual 32, 3) := by decide +kernel
theorem dX0_shift_5 : decode cX0_shift 5 = .ok (.ifCond .eq 11, 3) := by decide +kernel
theorem dX0_shift_8 : decode cX0_shift 8 = .ok (.aload_n 0, 1) := by decide +kernel
theorem dX0_shift_9 : decode cX0_shift 9 = .ok (.iload_n 2, 1) := by decide +kernel
theorem dX0_shift_10 : decode cX0_shift 10 = .ok (.invokevirtual 32, 3) := by decide +kernel
theorem dX0_shift_13 : decode cX0_shift 13 = .ok (.ifCond .ne 4, 3) := by decide +kernel
theorem dX0_shift_16 : decode cX0_shift 16 = .ok (.return_, 1) := by decide +kernel
theorem dX0_shift_17 : decode cX0_shift 17 = .ok (.aload_n 0, 1) := by decide +kernel
theorem dX0_shift_18 : decode cX0_shift 18 = .ok (.getfield 9, 3) := by decide +kernel
theorem dX0_shift_21 : decode cX0_shift 21 = .ok (.iload_n 1, 1) := by decide +kernel
theorem dX0_shift_22 : decode cX0_shift 22 = .ok (.iaload, 1) := by decide +kernel
theorem dX0_shift_23 : decode cX0_shift 23 = .ok (.istore_n 3, 1) := by decide +kernel
theorem dX0_shift_24 : decode cX0_shift 24 = .ok (.iload_n 1, 1) := by decide +kernel
theorem dX0_shift_25 : decode cX0_shift 25 = .ok (.istore 4, 2) := by decide +kernel
theorem dX0_shift_27 : decode cX0_shift 27 = .ok (.iload 4, 2) := by decide +kernel
theorem dX0_shift_29 : decode cX0_shift 29 = .ok (.iload_n 2, 1) := by decide +kernel
theorem dX0_shift_30 : decode cX0_shift 30 = .ok (.if_icmp .ge 25, 3) := by decide +kernel
theorem dX0_shift_33 : decode cX0_shift 33 = .ok (.aload_n 0, 1) := by decide +kernel
theorem dX0_shift_34 : decode cX0_shift 34 = .ok (.getfield 9, 3) := by decide +kernel
theorem dX0_shift_37 : decode cX0_shift 37 = .ok (.iload 4, 2) := by decide +kernel
theorem dX0_shift_39 : decode cX0_shift 39 = .ok (.aload_n 0, 1) := by decide +kernel
theorem dX0_shift_40 : decode cX0_shift 40 = .ok (.getfield 9, 3) := by decide +kernel
theorem dX0_shift_43 : decode cX0_shift 43 = .ok (.iload 4, 2) := by decide +kernel
theorem dX0_shift_45 : decode cX0_shift 45 = .ok (.iconst 1, 1) := by decide +kernel
theorem dX0_shift_46 : decode cX0_shift 46 = .ok (.iadd, 1) := by decide +kernel
theorem dX0_shift_47 : decode cX0_shift 47 = .ok (.iaload, 1) := by decide +kernel
theorem dX0_shift_48 : decode cX0_shift 48 = .ok (.iastore, 1) := by decide +kernel
theorem dX0_shift_49 : decode cX0_shift 49 = .ok (.iinc 4 1, 3) := by decide +kernel
theorem dX0_shift_52 : decode cX0_shift 52 = .ok (.goto (-25), 3) := by decide +kernel
theorem dX0_shift_55 : decode cX0_shift 55 = .ok (.iload_n 1, 1) := by decide +kernel
theorem dX0_shift_56 : decode cX0_shift 56 = .ok (.istore 4, 2) := by decide +kernel
theorem dX0_shift_58 : decode cX0_shift 58 = .ok (.iload 4, 2) := by decide +kernel
theorem dX0_shift_60 : decode cX0_shift 60 = .ok (.iload_n 2, 1) := by decide +kernel
theorem dX0_shift_61 : decode cX0_shift 61 = .ok (.if_icmp .le 25, 3) := by decide +kernel
theorem dX0_shift_64 : decode cX0_shift 64 = .ok (.aload_n 0, 1) := by decide +kernel
theorem dX0_shift_65 : decode cX0_shift 65 = .ok (.getfield 9, 3) := by decide +kernel
theorem dX0_shift_68 : decode cX0_shift 68 = .ok (.iload 4, 2) := by decide +kernel
theorem dX0_shift_70 : decode cX0_shift 70 = .ok (.aload_n 0, 1) := by decide +kernel
theorem dX0_shift_71 : decode cX0_shift 71 = .ok (.getfield 9, 3) := by decide +kernel
theorem dX0_shift_74 : decode cX0_shift 74 = .ok (.iload 4, 2) := by decide +kernel
theorem dX0_shift_76 : decode cX0_shift 76 = .ok (.iconst 1, 1) := by decide +kernel
theorem dX0_shift_77 : decode cX0_shift 77 = .ok (.isub, 1) := by decide +kernel
theorem dX0_shift_78 : decode cX0_shift 78 = .ok (.iaload, 1) := by decide +kernel
theorem dX0_shift_79 : decode cX0_shift 79 = .ok (.iastore, 1) := by decide +kernel
theorem dX0_shift_80 : decode cX0_shift 80 = .ok (.iinc 4 (-1), 3) := by decide +kernel
theorem dX0_shift_83 : decode cX0_shift 83 = .ok (.goto (-25), 3) := by decide +kernel
theorem dX0_shift_86 : decode cX0_shift 86 = .ok (.aload_n 0, 1) := by decide +kernel
theorem dX0_shift_87 : decode cX0_shift 87 = .ok (.getfield 9, 3) := by decide +kernel
theorem dX0_shift_90 : decode cX0_shift 90 = .ok (.iload_n 2, 1) := by decide +kernel
theorem dX0_shift_91 : decode cX0_shift 91 = .ok (.iload_n 3, 1) := by decide +kernel
theorem dX0_shift_92 : decode cX0_shift 92 = .ok (.iastore, 1) := by decide +kernel
theorem dX0_shift_93 : decode cX0_shift 93 = .ok (.return_, 1) := by decide +kernel
theorem dX1_init_0 : decode cX1_init 0 = .ok (.aload_n 0, 1) := by decide +kernel
theorem dX1_init_1 : decode cX1_init 1 = .ok (.invokespecial 3, 3) := by decide +kernel
theorem dX1_init_4 : decode cX1_init 4 = .ok (.aload_n 0, 1) := by decide +kernel
theorem dX1_init_5 : decode cX1_init 5 = .ok (.bipush 30, 2) := by decide +kernel
theorem dX1_init_7 : decode cX1_init 7 = .ok (.newarray .int, 2) := by decide +kernel
theorem dX1_init_9 : decode cX1_init 9 = .ok (.putfield 11, 3) := by decide +kernel
theorem dX1_init_12 : decode cX1_init 12 = .ok (.aload_n 0, 1) := by decide +kernel
theorem dX1_init_13 : decode cX1_init 13 = .ok (.bipush 30, 2) := by decide +kernel
theorem dX1_init_15 : decode cX1_init 15 = .ok (.newarray .int, 2) := by decide +kernel
theorem dX1_init_17 : decode cX1_init 17 = .ok (.putfield 15, 3) := by decide +kernel
theorem dX1_init_20 : decode cX1_init 20 = .ok (.aload_n 0, 1) := by decide +kernel
theorem dX1_init_21 : decode cX1_init 21 = .ok (.bipush 30, 2) := by decide +kernel
theorem dX1_init_23 : decode cX1_init 23 = .ok (.newarray .int, 2) := by decide +kernel
theorem dX1_init_25 : decode cX1_init 25 = .ok (.putfield 18, 3) := by decide +kernel
theorem dX1_init_28 : decode cX1_init 28 = .ok (.aload_n 0, 1) := by decide +kernel
theorem dX1_init_29 : decode cX1_init 29 = .ok (.bipush 30, 2) := by decide +kernel
theorem dX1_init_31 : decode cX1_init 31 = .ok (.newarray .int, 2) := by decide +kernel
theorem dX1_init_33 : decode cX1_init 33 = .ok (.putfield 21, 3) := by decide +kernel
theorem dX1_init_36 : decode cX1_init 36 = .ok (.aload_n 0, 1) := by decide +kernel
theorem dX1_init_37 : decode cX1_init 37 = .ok (.bipush 30, 2) := by decide +kernel
theorem dX1_init_39 : decode cX1_init 39 = .ok (.newarray .int, 2) := by decide +kernel
theorem dX1_init_41 : decode cX1_init 41 = .ok (.putfield 24, 3) := by decide +kernel
theorem dX1_init_44 : decode cX1_init 44 = .ok (.aload_n 0, 1) := by decide +kernel
theorem dX1_init_45 : decode cX1_init 45 = .ok (.iconst 0, 1) := by decide +kernel
theorem dX1_init_46 : decode cX1_init 46 = .ok (.putfield 27, 3) := by decide +kernel
theorem dX1_init_49 : decode cX1_init 49 = .ok (.aload_n 0, 1) := by decide +kernel
theorem dX1_init_50 : decode cX1_init 50 = .ok (.iconst 0, 1) := by decide +kernel
theorem dX1_init_51 : decode cX1_init 51 = .ok (.putfield 31, 3) := by decide +kernel
theorem dX1_init_54 : decode cX1_init 54 = .ok (.return_, 1) := by decide +kernel
set_option maxRecDepth 20000 in
theorem ggX1_parse_X1_parseCommand : GoodIn wsX1_parse wsX1_parseCommand := goodIn_ca (goodIn_r _ [7, 8, 1, 9, 10, 2, 11, 12, 13, 6, 14, 15, 16, 17, 18, 19, 20, 21, 22, 23, 24, 25, 26, 27, 28, 29, 30, 31, 32, 33, 34, 35, 36, 37, 38, 39, 40, 41, 42, 43, 44, 45, 46, 47, 48, 49, 50, 51, 52] (by decide +kernel) (by decide +kernel)) (goodIn_sub (fun _ h => List.mem_cons_of_mem _ (List.mem_append_right _ h)) (by decide +kernel))
set_option maxRecDepth 20000 in
theorem gX1_parse_X1_parseCommand : GoodIn wsX1_parse (wsV RX1 34 RX1 yX1_parseCommand wsX1_parseCommand) := goodIn_app (goodIn_of _ (by decide +kernel)) ggX1_parse_X1_parseCommand
set_option maxRecDepth 20000 in
theorem ggX1_parse_X1_take : GoodIn wsX1_parse wsX1_take := goodIn_ca (goodIn_r _ [14, 2, 15, 16, 17, 18, 19, 20, 21, 42, 43, 44, 45, 46, 47, 48, 49, 50, 51, 52] (by decide +kernel) (by decide +kernel)) (goodIn_sub (fun _ h => List.mem_cons_of_mem _ (List.mem_append_right _ h)) (by decide +kernel))
set_option maxRecDepth 20000 in
theorem gX1_parse_X1_take : GoodIn wsX1_parse (wsV RX1 38 RX1 yX1_take wsX1_take) := goodIn_app (goodIn_of _ (by decide +kernel)) ggX1_parse_X1_take
set_option maxRecDepth 20000 in
theorem ggX1_parse_X7_count : GoodIn wsX1_parse wsX7_count := goodIn_r _ [31, 20, 49, 50, 51, 52] (by decide +kernel) (by decide +kernel)
set_option maxRecDepth 20000 in
theorem gX1_parse_X7_count : GoodIn wsX1_parse (wsV RX1 42 RX7 yX7_count wsX7_count) := goodIn_app (goodIn_of _ (by decide +kernel)) ggX1_parse_X7_count
theorem dX1_parse_0 : decode cX1_parse 0 = .ok (.aload_n 0, 1) := by decide +kernel
theorem dX1_parse_1 : decode cX1_parse 1 = .ok (.iconst 0, 1) := by decide +kernel
theorem dX1_parse_2 : decode cX1_parse 2 = .ok (.putfield 27, 3) := by decide +kernel
theorem dX1_parse_5 : decode cX1_parse 5 = .ok (.aload_n 0, 1) := by decide +kernel
theorem dX1_parse_6 : decode cX1_parse 6 = .ok (.iconst 0, 1) := by decide +kernel
theorem dX1_parse_7 : decode cX1_parse 7 = .ok (.putfield 31, 3) := by decide +kernel
theorem dX1_parse_10 : decode cX1_parse 10 = .ok (.iconst 1, 1) := by decide +kernel
theorem dX1_parse_11 : decode cX1_parse 11 = .ok (.istore_n 2, 1) := by decide +kernel
theorem dX1_parse_12 : decode cX1_parse 12 = .ok (.iload_n 2, 1) := by decide +kernel
theorem dX1_parse_13 : decode cX1_parse 13 = .ok (.ifCond .eq 43, 3) := by decide +kernel
theorem dX1_parse_16 : decode cX1_parse 16 = .ok (.aload_n 0, 1) := by decide +kernel
theorem dX1_parse_17 : decode cX1_parse 17 = .ok (.getfield 27, 3) := by decide +kernel
theorem dX1_parse_20 : decode cX1_parse 20 = .ok (.bipush 30, 2) := by decide +kernel
theorem dX1_parse_22 : decode cX1_parse 22 = .ok (.if_icmp .ge 34, 3) := by decide +kernel
theorem dX1_parse_25 : decode cX1_parse 25 = .ok (.aload_n 0, 1) := by decide +kernel
theorem dX1_parse_26 : decode cX1_parse 26 = .ok (.aload_n 1, 1) := by decide +kernel
theorem dX1_parse_27 : decode cX1_parse 27 = .ok (.invokevirtual 34, 3) := by decide +kernel
theorem dX1_parse_30 : decode cX1_parse 30 = .ok (.ifCond .ne 5, 3) := by decide +kernel
theorem dX1_parse_33 : decode cX1_parse 33 = .ok (.iconst 0, 1) := by decide +kernel
theorem dX1_parse_34 : decode cX1_parse 34 = .ok (.ireturn, 1) := by decide +kernel
theorem dX1_parse_35 : decode cX1_parse 35 = .ok (.aload_n 0, 1) := by decide +kernel
theorem dX1_parse_36 : decode cX1_parse 36 = .ok (.dup, 1) := by decide +kernel
theorem dX1_parse_37 : decode cX1_parse 37 = .ok (.getfield 27, 3) := by decide +kernel
theorem dX1_parse_40 : decode cX1_parse 40 = .ok (.iconst 1, 1) := by decide +kernel
theorem dX1_parse_41 : decode cX1_parse 41 = .ok (.iadd, 1) := by decide +kernel
theorem dX1_parse_42 : decode cX1_parse 42 = .ok (.putfield 27, 3) := by decide +kernel
theorem dX1_parse_45 : decode cX1_parse 45 = .ok (.aload_n 0, 1) := by decide +kernel
theorem dX1_parse_46 : decode cX1_parse 46 = .ok (.bipush 59, 2) := by decide +kernel
theorem dX1_parse_48 : decode cX1_parse 48 = .ok (.aload_n 1, 1) := by decide +kernel
theorem dX1_parse_49 : decode cX1_parse 49 = .ok (.invokevirtual 38, 3) := by decide +kernel
theorem dX1_parse_52 : decode cX1_parse 52 = .ok (.istore_n 2, 1) := by decide +kernel
theorem dX1_parse_53 : decode cX1_parse 53 = .ok (.goto (-41), 3) := by decide +kernel
theorem dX1_parse_56 : decode cX1_parse 56 = .ok (.aload_n 0, 1) := by decide +kernel
theorem dX1_parse_57 : decode cX1_parse 57 = .ok (.getfield 31, 3) := by decide +kernel
theorem dX1_parse_60 : decode cX1_parse 60 = .ok (.aload_n 1, 1) := by decide +kernel
theorem dX1_parse_61 : decode cX1_parse 61 = .ok (.invokevirtual 42, 3) := by decide +kernel
theorem dX1_parse_64 : decode cX1_parse 64 = .ok (.if_icmp .ne 7, 3) := by decide +kernel
theorem dX1_parse_67 : decode cX1_parse 67 = .ok (.iconst 1, 1) := by decide +kernel
theorem dX1_parse_68 : decode cX1_parse 68 = .ok (.goto 4, 3) := by decide +kernel
theorem dX1_parse_71 : decode cX1_parse 71 = .ok (.iconst 0, 1) := by decide +kernel
theorem dX1_parse_72 : decode cX1_parse 72 = .ok (.ireturn, 1) := by decide +kernel
theorem dX1_errorPosition_0 : decode cX1_errorPosition 0 = .ok (.aload_n 0, 1) := by decide +kernel
theorem dX1_errorPosition_1 : decode cX1_errorPosition 1 = .ok (.getfield 31, 3) := by decide +kernel
theorem dX1_errorPosition_4 : decode cX1_errorPosition 4 = .ok (.ireturn, 1) := by decide +kernel
set_option maxRecDepth 20000 in
theorem ggX1_parseCommand_X1_take : GoodIn wsX1_parseCommand wsX1_take := goodIn_ca (goodIn_r _ [10, 5, 11, 12, 13, 14, 15, 16, 17, 38, 39, 40, 41, 42, 43, 44, 45, 46, 47, 48] (by decide +kernel) (by decide +kernel)) (goodIn_sub (fun _ h => List.mem_cons_of_mem _ (List.mem_append_right _ h)) (by decide +kernel))
set_option maxRecDepth 20000 in
theorem gX1_parseCommand_X1_take : GoodIn wsX1_parseCommand (wsV RX1 38 RX1 yX1_take wsX1_take) := goodIn_app (goodIn_of _ (by decide +kernel)) ggX1_parseCommand_X1_take
set_option maxRecDepth 20000 in
theorem ggX1_parseCommand_X1_parseNumber : GoodIn wsX1_parseCommand wsX1_parseNumber := goodIn_ca (goodIn_r _ [34, 5, 11, 12, 13, 14, 15, 16, 17, 35, 36, 9, 37, 38, 39, 40, 41, 42, 43, 44, 45, 46, 47, 48] (by decide +kernel) (by decide +kernel)) (goodIn_sub (fun _ h => List.mem_cons_of_mem _ (List.mem_append_right _ h)) (by decide +kernel))
set_option maxRecDepth 20000 in
theorem gX1_parseCommand_X1_parseNumber : GoodIn wsX1_parseCommand (wsV RX1 50 RX1 yX1_parseNumber wsX1_parseNumber) := goodIn_app (goodIn_of _ (by decide +kernel)) ggX1_parseCommand_X1_parseNumber
set_option maxRecDepth 20000 in
theorem ggX1_parseCommand_X7_signAt : GoodIn wsX1_parseCommand wsX7_signAt := goodIn_ca (goodIn_r _ [15, 16, 17, 45, 46, 47, 48] (by decide +kernel) (by decide +kernel)) (goodIn_sub (fun _ h => List.mem_cons_of_mem _ (List.mem_append_right _ h)) (by decide +kernel))
set_option maxRecDepth 20000 in
theorem gX1_parseCommand_X7_signAt : GoodIn wsX1_parseCommand (wsV RX1 54 RX7 yX7_signAt wsX7_signAt) := goodIn_app (goodIn_of _ (by decide +kernel)) ggX1_parseCommand_X7_signAt
theorem dX1_parseCommand_0 : decode cX1_parseCommand 0 = .ok (.aload_n 0, 1) := by decide +kernel
theorem dX1_parseCommand_1 : decode cX1_parseCommand 1 = .ok (.getfield 15, 3) := by decide +kernel
theorem dX1_parseCommand_4 : decode cX1_parseCommand 4 = .ok (.aload_n 0, 1) := by decide +kernel
theorem dX1_parseCommand_5 : decode cX1_parseCommand 5 = .ok (.getfield 27, 3) := by decide +kernel
theorem dX1_parseCommand_8 : decode cX1_parseCommand 8 = .ok (.iconst (-1), 1) := by decide +kernel
theorem dX1_parseCommand_9 : decode cX1_parseCommand 9 = .ok (.iastore, 1) := by decide +kernel
theorem dX1_parseCommand_10 : decode cX1_parseCommand 10 = .ok (.aload_n 0, 1) := by decide +kernel
theorem dX1_parseCommand_11 : decode cX1_parseCommand 11 = .ok (.getfield 18, 3) := by decide +kernel
theorem dX1_parseCommand_14 : decode cX1_parseCommand 14 = .ok (.aload_n 0, 1) := by decide +kernel
theorem dX1_parseCommand_15 : decode cX1_parseCommand 15 = .ok (.getfield 27, 3) := by decide +kernel
theorem dX1_parseCommand_18 : decode cX1_parseCommand 18 = .ok (.iconst (-1), 1) := by decide +kernel
theorem dX1_parseCommand_19 : decode cX1_parseCommand 19 = .ok (.iastore, 1) := by decide +kernel
theorem dX1_parseCommand_20 : decode cX1_parseCommand 20 = .ok (.aload_n 0, 1) := by decide +kernel
theorem dX1_parseCommand_21 : decode cX1_parseCommand 21 = .ok (.bipush 43, 2) := by decide +kernel
theorem dX1_parseCommand_23 : decode cX1_parseCommand 23 = .ok (.aload_n 1, 1) := by decide +kernel
theorem dX1_parseCommand_24 : decode cX1_parseCommand 24 = .ok (.invokevirtual 38, 3) := by decide +kernel
theorem dX1_parseCommand_27 : decode cX1_parseCommand 27 = .ok (.ifCond .eq 19, 3) := by decide +kernel
theorem dX1_parseCommand_30 : decode cX1_parseCommand 30 = .ok (.aload_n 0, 1) := by decide +kernel
theorem dX1_parseCommand_31 : decode cX1_parseCommand 31 = .ok (.getfield 11, 3) := by decide +kernel
theorem dX1_parseCommand_34 : decode cX1_parseCommand 34 = .ok (.aload_n 0, 1) := by decide +kernel
theorem dX1_parseCommand_35 : decode cX1_parseCommand 35 = .ok (.getfield 27, 3) := by decide +kernel
theorem dX1_parseCommand_38 : decode cX1_parseCommand 38 = .ok (.iconst 1, 1) := by decide +kernel
theorem dX1_parseCommand_39 : decode cX1_parseCommand 39 = .ok (.iastore, 1) := by decide +kernel
theorem dX1_parseCommand_40 : decode cX1_parseCommand 40 = .ok (.aload_n 0, 1) := by decide +kernel
theorem dX1_parseCommand_41 : decode cX1_parseCommand 41 = .ok (.aload_n 1, 1) := by decide +kernel
theorem dX1_parseCommand_42 : decode cX1_parseCommand 42 = .ok (.invokevirtual 47, 3) := by decide +kernel
theorem dX1_parseCommand_45 : decode cX1_parseCommand 45 = .ok (.ireturn, 1) := by decide +kernel
theorem dX1_parseCommand_46 : decode cX1_parseCommand 46 = .ok (.aload_n 0, 1) := by decide +kernel
theorem dX1_parseCommand_47 : decode cX1_parseCommand 47 = .ok (.getfield 15, 3) := by decide +kernel
theorem dX1_parseCommand_50 : decode cX1_parseCommand 50 = .ok (.aload_n 0, 1) := by decide +kernel
theorem dX1_parseCommand_51 : decode cX1_parseCommand 51 = .ok (.getfield 27, 3) := by decide +kernel
theorem dX1_parseCommand_54 : decode cX1_parseCommand 54 = .ok (.aload_n 0, 1) := by decide +kernel
theorem dX1_parseCommand_55 : decode cX1_parseCommand 55 = .ok (.aload_n 1, 1) := by decide +kernel
theorem dX1_parseCommand_56 : decode cX1_parseCommand 56 = .ok (.invokevirtual 50, 3) := by decide +kernel
theorem dX1_parseCommand_59 : decode cX1_parseCommand 59 = .ok (.iastore, 1) := by decide +kernel
theorem dX1_parseCommand_60 : decode cX1_parseCommand 60 = .ok (.aload_n 0, 1) := by decide +kernel
theorem dX1_parseCommand_61 : decode cX1_parseCommand 61 = .ok (.getfield 15, 3) := by decide +kernel
theorem dX1_parseCommand_64 : decode cX1_parseCommand 64 = .ok (.aload_n 0, 1) := by decide +kernel
theorem dX1_parseCommand_65 : decode cX1_parseCommand 65 = .ok (.getfield 27, 3) := by decide +kernel
theorem dX1_parseCommand_68 : decode cX1_parseCommand 68 = .ok (.iaload, 1) := by decide +kernel
theorem dX1_parseCommand_69 : decode cX1_parseCommand 69 = .ok (.iconst (-1), 1) := by decide +kernel
theorem dX1_parseCommand_70 : decode cX1_parseCommand 70 = .ok (.if_icmp .ne 5, 3) := by decide +kernel
theorem dX1_parseCommand_73 : decode cX1_parseCommand 73 = .ok (.iconst 0, 1) := by decide +kernel
theorem dX1_parseCommand_74 : decode cX1_parseCommand 74 = .ok (.ireturn, 1) := by decide +kernel
theorem dX1_parseCommand_75 : decode cX1_parseCommand 75 = .ok (.aload_n 0, 1) := by decide +kernel
theorem dX1_parseCommand_76 : decode cX1_parseCommand 76 = .ok (.bipush 126, 2) := by decide +kernel
theorem dX1_parseCommand_78 : decode cX1_parseCommand 78 = .ok (.aload_n 1, 1) := by decide +kernel
theorem dX1_parseCommand_79 : decode cX1_parseCommand 79 = .ok (.invokevirtual 38, 3) := by decide +kernel
theorem dX1_parseCommand_82 : decode cX1_parseCommand 82 = .ok (.ifCond .eq 19, 3) := by decide +kernel
theorem dX1_parseCommand_85 : decode cX1_parseCommand 85 = .ok (.aload_n 0, 1) := by decide +kernel
theorem dX1_parseCommand_86 : decode cX1_parseCommand 86 = .ok (.getfield 11, 3) := by decide +kernel
theorem dX1_parseCommand_89 : decode cX1_parseCommand 89 = .ok (.aload_n 0, 1) := by decide +kernel
theorem dX1_parseCommand_90 : decode cX1_parseCommand 90 = .ok (.getfield 27, 3) := by decide +kernel
theorem dX1_parseCommand_93 : decode cX1_parseCommand 93 = .ok (.iconst 2, 1) := by decide +kernel
theorem dX1_parseCommand_94 : decode cX1_parseCommand 94 = .ok (.iastore, 1) := by decide +kernel
theorem dX1_parseCommand_95 : decode cX1_parseCommand 95 = .ok (.aload_n 0, 1) := by decide +kernel
theorem dX1_parseCommand_96 : decode cX1_parseCommand 96 = .ok (.aload_n 1, 1) := by decide +kernel
theorem dX1_parseCommand_97 : decode cX1_parseCommand 97 = .ok (.invokevirtual 47, 3) := by decide +kernel
theorem dX1_parseCommand_100 : decode cX1_parseCommand 100 = .ok (.ireturn, 1) := by decide +kernel
theorem dX1_parseCommand_101 : decode cX1_parseCommand 101 = .ok (.aload_n 0, 1) := by decide +kernel
theorem dX1_parseCommand_102 : decode cX1_parseCommand 102 = .ok (.getfield 11, 3) := by decide +kernel
theorem dX1_parseCommand_105 : decode cX1_parseCommand 105 = .ok (.aload_n 0, 1) := by decide +kernel
theorem dX1_parseCommand_106 : decode cX1_parseCommand 106 = .ok (.getfield 27, 3) := by decide +kernel
theorem dX1_parseCommand_109 : decode cX1_parseCommand 109 = .ok (.aload_n 1, 1) := by decide +kernel
theorem dX1_parseCommand_110 : decode cX1_parseCommand 110 = .ok (.aload_n 0, 1) := by decide +kernel
theorem dX1_parseCommand_111 : decode cX1_parseCommand 111 = .ok (.getfield 31, 3) := by decide +kernel
theorem dX1_parseCommand_114 : decode cX1_parseCommand 114 = .ok (.invokevirtual 54, 3) := by decide +kernel
theorem dX1_parseCommand_117 : decode cX1_parseCommand 117 = .ok (.bipush 62, 2) := by decide +kernel
theorem dX1_parseCommand_119 : decode cX1_parseCommand 119 = .ok (.if_icmp .ne 7, 3) := by decide +kernel
theorem dX1_parseCommand_122 : decode cX1_parseCommand 122 = .ok (.iconst 3, 1) := by decide +kernel
theorem dX1_parseCommand_123 : decode cX1_parseCommand 123 = .ok (.goto 4, 3) := by decide +kernel
theorem dX1_parseCommand_126 : decode cX1_parseCommand 126 = .ok (.iconst 4, 1) := by decide +kernel
theorem dX1_parseCommand_127 : decode cX1_parseCommand 127 = .ok (.iastore, 1) := by decide +kernel
theorem dX1_parseCommand_128 : decode cX1_parseCommand 128 = .ok (.aload_n 0, 1) := by decide +kernel
theorem dX1_parseCommand_129 : decode cX1_parseCommand 129 = .ok (.bipush 62, 2) := by decide +kernel
theorem dX1_parseCommand_131 : decode cX1_parseCommand 131 = .ok (.aload_n 1, 1) := by decide +kernel
theorem dX1_parseCommand_132 : decode cX1_parseCommand 132 = .ok (.invokevirtual 38, 3) := by decide +kernel
theorem dX1_parseCommand_135 : decode cX1_parseCommand 135 = .ok (.ifCond .ne 13, 3) := by decide +kernel
theorem dX1_parseCommand_138 : decode cX1_parseCommand 138 = .ok (.aload_n 0, 1) := by decide +kernel
theorem dX1_parseCommand_139 : decode cX1_parseCommand 139 = .ok (.bipush 38, 2) := by decide +kernel
theorem dX1_parseCommand_141 : decode cX1_parseCommand 141 = .ok (.aload_n 1, 1) := by decide +kernel
theorem dX1_parseCommand_142 : decode cX1_parseCommand 142 = .ok (.invokevirtual 38, 3) := by decide +kernel
theorem dX1_parseCommand_145 : decode cX1_parseCommand 145 = .ok (.ifCond .eq 36, 3) := by decide +kernel
theorem dX1_parseCommand_148 : decode cX1_parseCommand 148 = .ok (.aload_n 0, 1) := by decide +kernel
theorem dX1_parseCommand_149 : decode cX1_parseCommand 149 = .ok (.getfield 18, 3) := by decide +kernel
theorem dX1_parseCommand_152 : decode cX1_parseCommand 152 = .ok (.aload_n 0, 1) := by decide +kernel
theorem dX1_parseCommand_153 : decode cX1_parseCommand 153 = .ok (.getfield 27, 3) := by decide +kernel
theorem dX1_parseCommand_156 : decode cX1_parseCommand 156 = .ok (.aload_n 0, 1) := by decide +kernel
theorem dX1_parseCommand_157 : decode cX1_parseCommand 157 = .ok (.aload_n 1, 1) := by decide +kernel
theorem dX1_parseCommand_158 : decode cX1_parseCommand 158 = .ok (.invokevirtual 50, 3) := by decide +kernel
theorem dX1_parseCommand_161 : decode cX1_parseCommand 161 = .ok (.iastore, 1) := by decide +kernel
theorem dX1_parseCommand_162 : decode cX1_parseCommand 162 = .ok (.aload_n 0, 1) := by decide +kernel
theorem dX1_parseCommand_163 : decode cX1_parseCommand 163 = .ok (.getfield 18, 3) := by decide +kernel
theorem dX1_parseCommand_166 : decode cX1_parseCommand 166 = .ok (.aload_n 0, 1) := by decide +kernel
theorem dX1_parseCommand_167 : decode cX1_parseCommand 167 = .ok (.getfield 27, 3) := by decide +kernel
theorem dX1_parseCommand_170 : decode cX1_parseCommand 170 = .ok (.iaload, 1) := by decide +kernel
theorem dX1_parseCommand_171 : decode cX1_parseCommand 171 = .ok (.iconst (-1), 1) := by decide +kernel
theorem dX1_parseCommand_172 : decode cX1_parseCommand 172 = .ok (.if_icmp .eq 7, 3) := by decide +kernel
theorem dX1_parseCommand_175 : decode cX1_parseCommand 175 = .ok (.iconst 1, 1) := by decide +kernel
theorem dX1_parseCommand_176 : decode cX1_parseCommand 176 = .ok (.goto 4, 3) := by decide +kernel
theorem dX1_parseCommand_179 : decode cX1_parseCommand 179 = .ok (.iconst 0, 1) := by decide +kernel
theorem dX1_parseCommand_180 : decode cX1_parseCommand 180 = .ok (.ireturn, 1) := by decide +kernel
theorem dX1_parseCommand_181 : decode cX1_parseCommand 181 = .ok (.iconst 0, 1) := by decide +kernel
theorem dX1_parseCommand_182 : decode cX1_parseCommand 182 = .ok (.ireturn, 1) := by decide +kernel
set_option maxRecDepth 20000 in
theorem ggX1_take_X7_signAt : GoodIn wsX1_take wsX7_signAt := goodIn_ca (goodIn_r _ [6, 7, 8, 16, 17, 18, 19] (by decide +kernel) (by decide +kernel)) (goodIn_sub (fun _ h => List.mem_cons_of_mem _ (List.mem_append_right _ h)) (by decide +kernel))
set_option maxRecDepth 20000 in
theorem gX1_take_X7_signAt : GoodIn wsX1_take (wsV RX1 54 RX7 yX7_signAt wsX7_signAt) := goodIn_app (goodIn_of _ (by decide +kernel)) ggX1_take_X7_signAt
theorem dX1_take_0 : decode cX1_take 0 = .ok (.aload_n 2, 1) := by decide +kernel
theorem dX1_take_1 : decode cX1_take 1 = .ok (.aload_n 0, 1) := by decide +kernel
theorem dX1_take_2 : decode cX1_take 2 = .ok (.getfield 31, 3) := by decide +kernel
theorem dX1_take_5 : decode cX1_take 5 = .ok (.invokevirtual 54, 3) := by decide +kernel
theorem dX1_take_8 : decode cX1_take 8 = .ok (.iload_n 1, 1) := by decide +kernel
theorem dX1_take_9 : decode cX1_take 9 = .ok (.if_icmp .eq 5, 3) := by decide +kernel
theorem dX1_take_12 : decode cX1_take 12 = .ok (.iconst 0, 1) := by decide +kernel
theorem dX1_take_13 : decode cX1_take 13 = .ok (.ireturn, 1) := by decide +kernel
theorem dX1_take_14 : decode cX1_take 14 = .ok (.aload_n 0, 1) := by decide +kernel
theorem dX1_take_15 : decode cX1_take 15 = .ok (.dup, 1) := by decide +kernel
theorem dX1_take_16 : decode cX1_take 16 = .ok (.getfield 31, 3) := by decide +kernel
theorem dX1_take_19 : decode cX1_take 19 = .ok (.iconst 1, 1) := by decide +kernel
theorem dX1_take_20 : decode cX1_take 20 = .ok (.iadd, 1) := by decide +kernel
theorem dX1_take_21 : decode cX1_take 21 = .ok (.putfield 31, 3) := by decide +kernel
theorem dX1_take_24 : decode cX1_take 24 = .ok (.iconst 1, 1) := by decide +kernel
theorem dX1_take_25 : decode cX1_take 25 = .ok (.ireturn, 1) := by decide +kernel
set_option maxRecDepth 20000 in
theorem ggX1_parseNumber_X7_signAt : GoodIn wsX1_parseNumber wsX7_signAt := goodIn_ca (goodIn_r _ [6, 7, 8, 20, 21, 22, 23] (by decide +kernel) (by decide +kernel)) (goodIn_sub (fun _ h => List.mem_cons_of_mem _ (List.mem_append_right _ h)) (by decide +kernel))
set_option maxRecDepth 20000 in
theorem gX1_parseNumber_X7_signAt : GoodIn wsX1_parseNumber (wsV RX1 54 RX7 yX7_signAt wsX7_signAt) := goodIn_app (goodIn_of _ (by decide +kernel)) ggX1_parseNumber_X7_signAt
set_option maxRecDepth 20000 in
theorem ggX1_parseNumber_X1_isDigit : GoodIn wsX1_parseNumber wsX1_isDigit := goodIn_r _ [12] (by decide +kernel) (by decide +kernel)
set_option maxRecDepth 20000 in
theorem gX1_parseNumber_X1_isDigit : GoodIn wsX1_parseNumber (va_wsS RX1 62 yX1_isDigit wsX1_isDigit) := goodIn_app (goodIn_of _ (by decide +kernel)) ggX1_parseNumber_X1_isDigit
theorem dX1_parseNumber_0 : decode cX1_parseNumber 0 = .ok (.aload_n 1, 1) := by decide +kernel
theorem dX1_parseNumber_1 : decode cX1_parseNumber 1 = .ok (.aload_n 0, 1) := by decide +kernel
theorem dX1_parseNumber_2 : decode cX1_parseNumber 2 = .ok (.getfield 31, 3) := by decide +kernel
theorem dX1_parseNumber_5 : decode cX1_parseNumber 5 = .ok (.invokevirtual 54, 3) := by decide +kernel
theorem dX1_parseNumber_8 : decode cX1_parseNumber 8 = .ok (.invokestatic 62, 3) := by decide +kernel
theorem dX1_parseNumber_11 : decode cX1_parseNumber 11 = .ok (.ifCond .ne 5, 3) := by decide +kernel
theorem dX1_parseNumber_14 : decode cX1_parseNumber 14 = .ok (.iconst (-1), 1) := by decide +kernel
theorem dX1_parseNumber_15 : decode cX1_parseNumber 15 = .ok (.ireturn, 1) := by decide +kernel
theorem dX1_parseNumber_16 : decode cX1_parseNumber 16 = .ok (.aload_n 1, 1) := by decide +kernel
theorem dX1_parseNumber_17 : decode cX1_parseNumber 17 = .ok (.aload_n 0, 1) := by decide +kernel
theorem dX1_parseNumber_18 : decode cX1_parseNumber 18 = .ok (.getfield 31, 3) := by decide +kernel
theorem dX1_parseNumber_21 : decode cX1_parseNumber 21 = .ok (.invokevirtual 54, 3) := by decide +kernel
theorem dX1_parseNumber_24 : decode cX1_parseNumber 24 = .ok (.bipush 48, 2) := by decide +kernel
theorem dX1_parseNumber_26 : decode cX1_parseNumber 26 = .ok (.isub, 1) := by decide +kernel
theorem dX1_parseNumber_27 : decode cX1_parseNumber 27 = .ok (.istore_n 2, 1) := by decide +kernel
theorem dX1_parseNumber_28 : decode cX1_parseNumber 28 = .ok (.aload_n 0, 1) := by decide +kernel
theorem dX1_parseNumber_29 : decode cX1_parseNumber 29 = .ok (.dup, 1) := by decide +kernel
theorem dX1_parseNumber_30 : decode cX1_parseNumber 30 = .ok (.getfield 31, 3) := by decide +kernel
theorem dX1_parseNumber_33 : decode cX1_parseNumber 33 = .ok (.iconst 1, 1) := by decide +kernel
theorem dX1_parseNumber_34 : decode cX1_parseNumber 34 = .ok (.iadd, 1) := by decide +kernel
theorem dX1_parseNumber_35 : decode cX1_parseNumber 35 = .ok (.putfield 31, 3) := by decide +kernel
theorem dX1_parseNumber_38 : decode cX1_parseNumber 38 = .ok (.aload_n 1, 1) := by decide +kernel
theorem dX1_parseNumber_39 : decode cX1_parseNumber 39 = .ok (.aload_n 0, 1) := by decide +kernel
theorem dX1_parseNumber_40 : decode cX1_parseNumber 40 = .ok (.getfield 31, 3) := by decide +kernel
theorem dX1_parseNumber_43 : decode cX1_parseNumber 43 = .ok (.invokevirtual 54, 3) := by decide +kernel
theorem dX1_parseNumber_46 : decode cX1_parseNumber 46 = .ok (.invokestatic 62, 3) := by decide +kernel
theorem dX1_parseNumber_49 : decode cX1_parseNumber 49 = .ok (.ifCond .eq 30, 3) := by decide +kernel
theorem dX1_parseNumber_52 : decode cX1_parseNumber 52 = .ok (.bipush 10, 2) := by decide +kernel
theorem dX1_parseNumber_54 : decode cX1_parseNumber 54 = .ok (.iload_n 2, 1) := by decide +kernel
theorem dX1_parseNumber_55 : decode cX1_parseNumber 55 = .ok (.imul, 1) := by decide +kernel
theorem dX1_parseNumber_56 : decode cX1_parseNumber 56 = .ok (.aload_n 1, 1) := by decide +kernel
theorem dX1_parseNumber_57 : decode cX1_parseNumber 57 = .ok (.aload_n 0, 1) := by decide +kernel
theorem dX1_parseNumber_58 : decode cX1_parseNumber 58 = .ok (.getfield 31, 3) := by decide +kernel
theorem dX1_parseNumber_61 : decode cX1_parseNumber 61 = .ok (.invokevirtual 54, 3) := by decide +kernel
theorem dX1_parseNumber_64 : decode cX1_parseNumber 64 = .ok (.iadd, 1) := by decide +kernel
theorem dX1_parseNumber_65 : decode cX1_parseNumber 65 = .ok (.bipush 48, 2) := by decide +kernel
theorem dX1_parseNumber_67 : decode cX1_parseNumber 67 = .ok (.isub, 1) := by decide +kernel
theorem dX1_parseNumber_68 : decode cX1_parseNumber 68 = .ok (.istore_n 2, 1) := by decide +kernel
theorem dX1_parseNumber_69 : decode cX1_parseNumber 69 = .ok (.aload_n 0, 1) := by decide +kernel
theorem dX1_parseNumber_70 : decode cX1_parseNumber 70 = .ok (.dup, 1) := by decide +kernel
theorem dX1_parseNumber_71 : decode cX1_parseNumber 71 = .ok (.getfield 31, 3) := by decide +kernel
theorem dX1_parseNumber_74 : decode cX1_parseNumber 74 = .ok (.iconst 1, 1) := by decide +kernel
theorem dX1_parseNumber_75 : decode cX1_parseNumber 75 = .ok (.iadd, 1) := by decide +kernel
theorem dX1_parseNumber_76 : decode cX1_parseNumber 76 = .ok (.putfield 31, 3) := by decide +kernel
theorem dX1_parseNumber_79 : decode cX1_parseNumber 79 = .ok (.iload_n 2, 1) := by decide +kernel
theorem dX1_parseNumber_80 : decode cX1_parseNumber 80 = .ok (.ireturn, 1) := by decide +kernel
theorem dX1_isDigit_0 : decode cX1_isDigit 0 = .ok (.iload_n 0, 1) := by decide +kernel
theorem dX1_isDigit_1 : decode cX1_isDigit 1 = .ok (.bipush 48, 2) := by decide +kernel
theorem dX1_isDigit_3 : decode cX1_isDigit 3 = .ok (.if_icmp .lt 13, 3) := by decide +kernel
theorem dX1_isDigit_6 : decode cX1_isDigit 6 = .ok (.iload_n 0, 1) := by decide +kernel
theorem dX1_isDigit_7 : decode cX1_isDigit 7 = .ok (.bipush 57, 2) := by decide +kernel
theorem dX1_isDigit_9 : decode cX1_isDigit 9 = .ok (.if_icmp .gt 7, 3) := by decide +kernel
theorem dX1_isDigit_12 : decode cX1_isDigit 12 = .ok (.iconst 1, 1) := by decide +kernel
theorem dX1_isDigit_13 : decode cX1_isDigit 13 = .ok (.goto 4, 3) := by decide +kernel
theorem dX1_isDigit_16 : decode cX1_isDigit 16 = .ok (.iconst 0, 1) := by decide +kernel
theorem dX1_isDigit_17 : decode cX1_isDigit 17 = .ok (.ireturn, 1) := by decide +kernel
theorem dX2_init_0 : decode cX2_init 0 = .ok (.aload_n 0, 1) := by decide +kernel
theorem dX2_init_1 : decode cX2_init 1 = .ok (.invokespecial 3, 3) := by decide +kernel
theorem dX2_init_4 : decode cX2_init 4 = .ok (.aload_n 0, 1) := by decide +kernel
theorem dX2_init_5 : decode cX2_init 5 = .ok (.bipush 9, 2) := by decide +kernel
theorem dX2_init_7 : decode cX2_init 7 = .ok (.newarray .long, 2) := by decide +kernel
theorem dX2_init_9 : decode cX2_init 9 = .ok (.putfield 9, 3) := by decide +kernel
theorem dX2_init_12 : decode cX2_init 12 = .ok (.aload_n 0, 1) := by decide +kernel
theorem dX2_init_13 : decode cX2_init 13 = .ok (.bipush 9, 2) := by decide +kernel
theorem dX2_init_15 : decode cX2_init 15 = .ok (.newarray .int, 2) := by decide +kernel
theorem dX2_init_17 : decode cX2_init 17 = .ok (.putfield 15, 3) := by decide +kernel
theorem dX2_init_20 : decode cX2_init 20 = .ok (.aload_n 0, 1) := by decide +kernel
theorem dX2_init_21 : decode cX2_init 21 = .ok (.iconst 1, 1) := by decide +kernel
theorem dX2_init_22 : decode cX2_init 22 = .ok (.putfield 19, 3) := by decide +kernel
theorem dX2_init_25 : decode cX2_init 25 = .ok (.return_, 1) := by decide +kernel
set_option maxRecDepth 20000 in
theorem ggX3_init_X0_init : GoodIn wsX3_init wsX0_init := goodIn_ca (goodIn_r _ [18, 19, 2, 3, 20, 21, 22, 23, 24, 25, 52, 53, 54, 55] (by decide +kernel) (by decide +kernel)) (goodIn_sub (fun _ h => List.mem_cons_of_mem _ (List.mem_append_right _ h)) (by decide +kernel))
set_option maxRecDepth 20000 in
theorem gX3_init_X0_init : GoodIn wsX3_init (wsX0_init) := ggX3_init_X0_init
set_option maxRecDepth 20000 in
theorem ggX3_init_X8_init : GoodIn wsX3_init wsX8_init := goodIn_r _ [28, 29, 2, 3, 30, 31, 32, 33, 34, 35, 36, 37, 38, 39, 40, 41, 42, 59, 60, 66, 67, 68] (by decide +kernel) (by decide +kernel)
set_option maxRecDepth 20000 in
theorem gX3_init_X8_init : GoodIn wsX3_init (wsX8_init) := ggX3_init_X8_init
set_option maxRecDepth 20000 in
theorem ggX3_init_X10_init : GoodIn wsX3_init wsX10_init := goodIn_r _ [45, 46, 2, 3, 20, 47, 48, 49, 50, 51, 61, 62, 63, 64, 65] (by decide +kernel) (by decide +kernel)
set_option maxRecDepth 20000 in
theorem gX3_init_X10_init : GoodIn wsX3_init (wsX10_init) := ggX3_init_X10_init
theorem dX3_init_0 : decode cX3_init 0 = .ok (.aload_n 0, 1) := by decide +kernel
theorem dX3_init_1 : decode cX3_init 1 = .ok (.invokespecial 1, 3) := by decide +kernel
theorem dX3_init_4 : decode cX3_init 4 = .ok (.aload_n 0, 1) := by decide +kernel
theorem dX3_init_5 : decode cX3_init 5 = .ok (.new 7, 3) := by decide +kernel
theorem dX3_init_8 : decode cX3_init 8 = .ok (.dup, 1) := by decide +kernel
theorem dX3_init_9 : decode cX3_init 9 = .ok (.invokespecial 9, 3) := by decide +kernel
theorem dX3_init_12 : decode cX3_init 12 = .ok (.putfield 10, 3) := by decide +kernel
theorem dX3_init_15 : decode cX3_init 15 = .ok (.aload_n 0, 1) := by decide +kernel
theorem dX3_init_16 : decode cX3_init 16 = .ok (.new 16, 3) := by decide +kernel
theorem dX3_init_19 : decode cX3_init 19 = .ok (.dup, 1) := by decide +kernel
theorem dX3_init_20 : decode cX3_init 20 = .ok (.invokespecial 18, 3) := by decide +kernel
theorem dX3_init_23 : decode cX3_init 23 = .ok (.putfield 19, 3) := by decide +kernel
theorem dX3_init_26 : decode cX3_init 26 = .ok (.aload_n 0, 1) := by decide +kernel
theorem dX3_init_27 : decode cX3_init 27 = .ok (.new 23, 3) := by decide +kernel
theorem dX3_init_30 : decode cX3_init 30 = .ok (.dup, 1) := by decide +kernel
theorem dX3_init_31 : decode cX3_init 31 = .ok (.invokespecial 25, 3) := by decide +kernel
theorem dX3_init_34 : decode cX3_init 34 = .ok (.putfield 26, 3) := by decide +kernel
theorem dX3_init_37 : decode cX3_init 37 = .ok (.return_, 1) := by decide +kernel
set_option maxRecDepth 20000 in
theorem ggX3_copyFrom_X0_copyFrom : GoodIn wsX3_copyFrom wsX0_copyFrom := goodIn_r _ [8, 9, 10, 11, 12, 13, 14, 15, 16, 47, 48, 49, 50] (by decide +kernel) (by decide +kernel)
set_option maxRecDepth 20000 in
theorem gX3_copyFrom_X0_copyFrom : GoodIn wsX3_copyFrom (wsV RX3 30 RX0 yX0_copyFrom wsX0_copyFrom) := goodIn_app (goodIn_of _ (by decide +kernel)) ggX3_copyFrom_X0_copyFrom
set_option maxRecDepth 20000 in
theorem ggX3_copyFrom_X8_copyFrom : GoodIn wsX3_copyFrom wsX8_copyFrom := goodIn_r _ [21, 22, 23, 24, 25, 26, 27, 28, 29, 30, 11, 12, 13, 31, 32, 51, 52, 53, 54, 55] (by decide +kernel) (by decide +kernel)
set_option maxRecDepth 20000 in
theorem gX3_copyFrom_X8_copyFrom : GoodIn wsX3_copyFrom (wsV RX3 34 RX8 yX8_copyFrom wsX8_copyFrom) := goodIn_app (goodIn_of _ (by decide +kernel)) ggX3_copyFrom_X8_copyFrom
set_option maxRecDepth 20000 in
theorem ggX3_copyFrom_X10_copyFrom : GoodIn wsX3_copyFrom wsX10_copyFrom := goodIn_r _ [37, 38, 39, 11, 12, 13, 40, 41, 42, 43, 56, 57, 58, 59, 60] (by decide +kernel) (by decide +kernel)
set_option maxRecDepth 20000 in
theorem gX3_copyFrom_X10_copyFrom : GoodIn wsX3_copyFrom (wsV RX3 37 RX10 yX10_copyFrom wsX10_copyFrom) := goodIn_app (goodIn_of _ (by decide +kernel)) ggX3_copyFrom_X10_copyFrom
theorem dX3_copyFrom_0 : decode cX3_copyFrom 0 = .ok (.aload_n 0, 1) := by decide +kernel
theorem dX3_copyFrom_1 : decode cX3_copyFrom 1 = .ok (.getfield 10, 3) := by decide +kernel
theorem dX3_copyFrom_4 : decode cX3_copyFrom 4 = .ok (.aload_n 1, 1) := by decide +kernel
theorem dX3_copyFrom_5 : decode cX3_copyFrom 5 = .ok (.getfield 10, 3) := by decide +kernel
theorem dX3_copyFrom_8 : decode cX3_copyFrom 8 = .ok (.invokevirtual 30, 3) := by decide +kernel
theorem dX3_copyFrom_11 : decode cX3_copyFrom 11 = .ok (.aload_n 0, 1) := by decide +kernel
theorem dX3_copyFrom_12 : decode cX3_copyFrom 12 = .ok (.getfield 19, 3) := by decide +kernel
theorem dX3_copyFrom_15 : decode cX3_copyFrom 15 = .ok (.aload_n 1, 1) := by decide +kernel
theorem dX3_copyFrom_16 : decode cX3_copyFrom 16 = .ok (.getfield 19, 3) := by decide +kernel
theorem dX3_copyFrom_19 : decode cX3_copyFrom 19 = .ok (.invokevirtual 34, 3) := by decide +kernel
theorem dX3_copyFrom_22 : decode cX3_copyFrom 22 = .ok (.aload_n 0, 1) := by decide +kernel
theorem dX3_copyFrom_23 : decode cX3_copyFrom 23 = .ok (.getfield 26, 3) := by decide +kernel
theorem dX3_copyFrom_26 : decode cX3_copyFrom 26 = .ok (.aload_n 1, 1) := by decide +kernel
theorem dX3_copyFrom_27 : decode cX3_copyFrom 27 = .ok (.getfield 26, 3) := by decide +kernel
theorem dX3_copyFrom_30 : decode cX3_copyFrom 30 = .ok (.invokevirtual 37, 3) := by decide +kernel
theorem dX3_copyFrom_33 : decode cX3_copyFrom 33 = .ok (.return_, 1) := by decide +kernel
theorem dX3_alphabet_0 : decode cX3_alphabet 0 = .ok (.aload_n 0, 1) := by decide +kernel
theorem dX3_alphabet_1 : decode cX3_alphabet 1 = .ok (.getfield 10, 3) := by decide +kernel
theorem dX3_alphabet_4 : decode cX3_alphabet 4 = .ok (.areturn, 1) := by decide +kernel
theorem dX3_lexicon_0 : decode cX3_lexicon 0 = .ok (.aload_n 0, 1) := by decide +kernel
theorem dX3_lexicon_1 : decode cX3_lexicon 1 = .ok (.getfield 19, 3) := by decide +kernel
theorem dX3_lexicon_4 : decode cX3_lexicon 4 = .ok (.areturn, 1) := by decide +kernel
theorem dX3_rules_0 : decode cX3_rules 0 = .ok (.aload_n 0, 1) := by decide +kernel
theorem dX3_rules_1 : decode cX3_rules 1 = .ok (.getfield 26, 3) := by decide +kernel
theorem dX3_rules_4 : decode cX3_rules 4 = .ok (.areturn, 1) := by decide +kernel
theorem dX5_init_0 : decode cX5_init 0 = .ok (.aload_n 0, 1) := by decide +kernel
theorem dX5_init_1 : decode cX5_init 1 = .ok (.invokespecial 3, 3) := by decide +kernel
theorem dX5_init_4 : decode cX5_init 4 = .ok (.aload_n 0, 1) := by decide +kernel
theorem dX5_init_5 : decode cX5_init 5 = .ok (.bipush 6, 2) := by decide +kernel
theorem dX5_init_7 : decode cX5_init 7 = .ok (.newarray .long, 2) := by decide +kernel
theorem dX5_init_9 : decode cX5_init 9 = .ok (.putfield 9, 3) := by decide +kernel
theorem dX5_init_12 : decode cX5_init 12 = .ok (.aload_n 0, 1) := by decide +kernel
theorem dX5_init_13 : decode cX5_init 13 = .ok (.iconst 0, 1) := by decide +kernel
theorem dX5_init_14 : decode cX5_init 14 = .ok (.putfield 15, 3) := by decide +kernel
theorem dX5_init_17 : decode cX5_init 17 = .ok (.aload_n 0, 1) := by decide +kernel
theorem dX5_init_18 : decode cX5_init 18 = .ok (.iconst (-1), 1) := by decide +kernel
theorem dX5_init_19 : decode cX5_init 19 = .ok (.putfield 19, 3) := by decide +kernel
theorem dX5_init_22 : decode cX5_init 22 = .ok (.return_, 1) := by decide +kernel
set_option maxRecDepth 20000 in
theorem ggX6_init_X3_init : GoodIn wsX6_init wsX3_init := goodIn_ca (goodIn_r _ [12, 13, 2, 3, 14, 15, 16, 17, 18, 19, 20, 21, 22, 23, 24, 25, 26, 27, 28, 29, 30, 31, 32, 33, 34, 35, 36, 37, 38, 39, 40, 41, 42, 43, 44, 45, 46, 47, 48, 49, 50, 51, 52, 53, 54, 55, 56, 57, 58, 59, 60, 61, 68, 69, 70, 71, 65, 66, 67, 72, 73, 74, 75, 76, 77, 78, 79, 80, 81] (by decide +kernel) (by decide +kernel)) (goodIn_sub (fun _ h => List.mem_cons_of_mem _ (List.mem_append_right _ h)) (by decide +kernel))
set_option maxRecDepth 20000 in
theorem gX6_init_X3_init : GoodIn wsX6_init (wsX3_init) := ggX6_init_X3_init
theorem dX6_init_0 : decode cX6_init 0 = .ok (.aload_n 0, 1) := by decide +kernel
theorem dX6_init_1 : decode cX6_init 1 = .ok (.invokespecial 3, 3) := by decide +kernel
theorem dX6_init_4 : decode cX6_init 4 = .ok (.aload_n 0, 1) := by decide +kernel
theorem dX6_init_5 : decode cX6_init 5 = .ok (.bipush 9, 2) := by decide +kernel
theorem dX6_init_7 : decode cX6_init 7 = .ok (.anewarray 11, 3) := by decide +kernel
theorem dX6_init_10 : decode cX6_init 10 = .ok (.putfield 13, 3) := by decide +kernel
theorem dX6_init_13 : decode cX6_init 13 = .ok (.aload_n 0, 1) := by decide +kernel
theorem dX6_init_14 : decode cX6_init 14 = .ok (.iconst 0, 1) := by decide +kernel
theorem dX6_init_15 : decode cX6_init 15 = .ok (.putfield 17, 3) := by decide +kernel
theorem dX6_init_18 : decode cX6_init 18 = .ok (.aload_n 0, 1) := by decide +kernel
theorem dX6_init_19 : decode cX6_init 19 = .ok (.iconst 0, 1) := by decide +kernel
theorem dX6_init_20 : decode cX6_init 20 = .ok (.putfield 21, 3) := by decide +kernel
theorem dX6_init_23 : decode cX6_init 23 = .ok (.iconst 0, 1) := by decide +kernel
theorem dX6_init_24 : decode cX6_init 24 = .ok (.istore_n 1, 1) := by decide +kernel
theorem dX6_init_25 : decode cX6_init 25 = .ok (.iload_n 1, 1) := by decide +kernel
theorem dX6_init_26 : decode cX6_init 26 = .ok (.bipush 9, 2) := by decide +kernel
theorem dX6_init_28 : decode cX6_init 28 = .ok (.if_icmp .ge 22, 3) := by decide +kernel
theorem dX6_init_31 : decode cX6_init 31 = .ok (.aload_n 0, 1) := by decide +kernel
theorem dX6_init_32 : decode cX6_init 32 = .ok (.getfield 13, 3) := by decide +kernel
theorem dX6_init_35 : decode cX6_init 35 = .ok (.iload_n 1, 1) := by decide +kernel
theorem dX6_init_36 : decode cX6_init 36 = .ok (.new 11, 3) := by decide +kernel
theorem dX6_init_39 : decode cX6_init 39 = .ok (.dup, 1) := by decide +kernel
theorem dX6_init_40 : decode cX6_init 40 = .ok (.invokespecial 24, 3) := by decide +kernel
theorem dX6_init_43 : decode cX6_init 43 = .ok (.aastore, 1) := by decide +kernel
theorem dX6_init_44 : decode cX6_init 44 = .ok (.iinc 1 1, 3) := by decide +kernel
theorem dX6_init_47 : decode cX6_init 47 = .ok (.goto (-22), 3) := by decide +kernel
theorem dX6_init_50 : decode cX6_init 50 = .ok (.return_, 1) := by decide +kernel
theorem dX6_count_0 : decode cX6_count 0 = .ok (.aload_n 0, 1) := by decide +kernel
theorem dX6_count_1 : decode cX6_count 1 = .ok (.getfield 21, 3) := by decide +kernel
theorem dX6_count_4 : decode cX6_count 4 = .ok (.ireturn, 1) := by decide +kernel
set_option maxRecDepth 20000 in
theorem ggX6_prepare_X3_copyFrom : GoodIn wsX6_prepare wsX3_copyFrom := goodIn_r _ [7, 8, 9, 10, 11, 12, 13, 14, 15, 16, 17, 18, 19, 20, 21, 22, 23, 24, 25, 26, 27, 28, 29, 30, 31, 32, 33, 34, 35, 36, 37, 38, 39, 40, 41, 42, 43, 44, 45, 46, 47, 48, 49, 50, 54, 55, 56, 57, 58, 59, 60, 61, 62, 63, 64, 65, 66, 67, 68, 69, 70] (by decide +kernel) (by decide +kernel)
set_option maxRecDepth 20000 in
theorem gX6_prepare_X3_copyFrom : GoodIn wsX6_prepare (wsV RX6 25 RX3 yX3_copyFrom wsX3_copyFrom) := goodIn_app (goodIn_of _ (by decide +kernel)) ggX6_prepare_X3_copyFrom
theorem dX6_prepare_0 : decode cX6_prepare 0 = .ok (.aload_n 0, 1) := by decide +kernel
theorem dX6_prepare_1 : decode cX6_prepare 1 = .ok (.getfield 13, 3) := by decide +kernel
theorem dX6_prepare_4 : decode cX6_prepare 4 = .ok (.aload_n 0, 1) := by decide +kernel
theorem dX6_prepare_5 : decode cX6_prepare 5 = .ok (.getfield 17, 3) := by decide +kernel
theorem dX6_prepare_8 : decode cX6_prepare 8 = .ok (.aaload, 1) := by decide +kernel
theorem dX6_prepare_9 : decode cX6_prepare 9 = .ok (.aload_n 1, 1) := by decide +kernel
theorem dX6_prepare_10 : decode cX6_prepare 10 = .ok (.invokevirtual 25, 3) := by decide +kernel
theorem dX6_prepare_13 : decode cX6_prepare 13 = .ok (.return_, 1) := by decide +kernel
theorem dX6_keep_0 : decode cX6_keep 0 = .ok (.aload_n 0, 1) := by decide +kernel
theorem dX6_keep_1 : decode cX6_keep 1 = .ok (.aload_n 0, 1) := by decide +kernel
theorem dX6_keep_2 : decode cX6_keep 2 = .ok (.getfield 17, 3) := by decide +kernel
theorem dX6_keep_5 : decode cX6_keep 5 = .ok (.iconst 1, 1) := by decide +kernel
theorem dX6_keep_6 : decode cX6_keep 6 = .ok (.iadd, 1) := by decide +kernel
theorem dX6_keep_7 : decode cX6_keep 7 = .ok (.bipush 9, 2) := by decide +kernel
theorem dX6_keep_9 : decode cX6_keep 9 = .ok (.irem, 1) := by decide +kernel
theorem dX6_keep_10 : decode cX6_keep 10 = .ok (.putfield 17, 3) := by decide +kernel
theorem dX6_keep_13 : decode cX6_keep 13 = .ok (.aload_n 0, 1) := by decide +kernel
theorem dX6_keep_14 : decode cX6_keep 14 = .ok (.aload_n 0, 1) := by decide +kernel
theorem dX6_keep_15 : decode cX6_keep 15 = .ok (.getfield 21, 3) := by decide +kernel
theorem dX6_keep_18 : decode cX6_keep 18 = .ok (.iconst 1, 1) := by decide +kernel
theorem dX6_keep_19 : decode cX6_keep 19 = .ok (.iadd, 1) := by decide +kernel
theorem dX6_keep_20 : decode cX6_keep 20 = .ok (.bipush 8, 2) := by decide +kernel
theorem dX6_keep_22 : decode cX6_keep 22 = .ok (.invokestatic 29, 3) := by decide +kernel
theorem dX6_keep_25 : decode cX6_keep 25 = .ok (.putfield 21, 3) := by decide +kernel
theorem dX6_keep_28 : decode cX6_keep 28 = .ok (.return_, 1) := by decide +kernel
theorem dX7_init_0 : decode cX7_init 0 = .ok (.aload_n 0, 1) := by decide +kernel
theorem dX7_init_1 : decode cX7_init 1 = .ok (.invokespecial 3, 3) := by decide +kernel
theorem dX7_init_4 : decode cX7_init 4 = .ok (.aload_n 0, 1) := by decide +kernel
theorem dX7_init_5 : decode cX7_init 5 = .ok (.bipush 60, 2) := by decide +kernel
theorem dX7_init_7 : decode cX7_init 7 = .ok (.newarray .char, 2) := by decide +kernel
theorem dX7_init_9 : decode cX7_init 9 = .ok (.putfield 9, 3) := by decide +kernel
theorem dX7_init_12 : decode cX7_init 12 = .ok (.aload_n 0, 1) := by decide +kernel
theorem dX7_init_13 : decode cX7_init 13 = .ok (.iconst 0, 1) := by decide +kernel
theorem dX7_init_14 : decode cX7_init 14 = .ok (.putfield 15, 3) := by decide +kernel
theorem dX7_init_17 : decode cX7_init 17 = .ok (.aload_n 0, 1) := by decide +kernel
theorem dX7_init_18 : decode cX7_init 18 = .ok (.lconst 0, 1) := by decide +kernel
theorem dX7_init_19 : decode cX7_init 19 = .ok (.putfield 21, 3) := by decide +kernel
theorem dX7_init_22 : decode cX7_init 22 = .ok (.aload_n 0, 1) := by decide +kernel
theorem dX7_init_23 : decode cX7_init 23 = .ok (.iconst 0, 1) := by decide +kernel
theorem dX7_init_24 : decode cX7_init 24 = .ok (.putfield 25, 3) := by decide +kernel
theorem dX7_init_27 : decode cX7_init 27 = .ok (.return_, 1) := by decide +kernel
theorem dX7_count_0 : decode cX7_count 0 = .ok (.aload_n 0, 1) := by decide +kernel
theorem dX7_count_1 : decode cX7_count 1 = .ok (.getfield 15, 3) := by decide +kernel
theorem dX7_count_4 : decode cX7_count 4 = .ok (.ireturn, 1) := by decide +kernel
theorem dX7_isFull_0 : decode cX7_isFull 0 = .ok (.aload_n 0, 1) := by decide +kernel
theorem dX7_isFull_1 : decode cX7_isFull 1 = .ok (.getfield 15, 3) := by decide +kernel
theorem dX7_isFull_4 : decode cX7_isFull 4 = .ok (.bipush 60, 2) := by decide +kernel
theorem dX7_isFull_6 : decode cX7_isFull 6 = .ok (.if_icmp .lt 7, 3) := by decide +kernel
theorem dX7_isFull_9 : decode cX7_isFull 9 = .ok (.iconst 1, 1) := by decide +kernel
theorem dX7_isFull_10 : decode cX7_isFull 10 = .ok (.goto 4, 3) := by decide +kernel
theorem dX7_isFull_13 : decode cX7_isFull 13 = .ok (.iconst 0, 1) := by decide +kernel
theorem dX7_isFull_14 : decode cX7_isFull 14 = .ok (.ireturn, 1) := by decide +kernel
set_option maxRecDepth 20000 in
theorem ggX7_put_X7_isFull : GoodIn wsX7_put wsX7_isFull := goodIn_r _ [7, 2, 8, 9, 10, 11] (by decide +kernel) (by decide +kernel)
set_option maxRecDepth 20000 in
theorem gX7_put_X7_isFull : GoodIn wsX7_put (wsV RX7 28 RX7 yX7_isFull wsX7_isFull) := goodIn_app (goodIn_of _ (by decide +kernel)) ggX7_put_X7_isFull
theorem dX7_put_0 : decode cX7_put 0 = .ok (.aload_n 0, 1) := by decide +kernel
theorem dX7_put_1 : decode cX7_put 1 = .ok (.invokevirtual 28, 3) := by decide +kernel
theorem dX7_put_4 : decode cX7_put 4 = .ok (.ifCond .ne 23, 3) := by decide +kernel
theorem dX7_put_7 : decode cX7_put 7 = .ok (.aload_n 0, 1) := by decide +kernel
theorem dX7_put_8 : decode cX7_put 8 = .ok (.getfield 9, 3) := by decide +kernel
theorem dX7_put_11 : decode cX7_put 11 = .ok (.aload_n 0, 1) := by decide +kernel
theorem dX7_put_12 : decode cX7_put 12 = .ok (.getfield 15, 3) := by decide +kernel
theorem dX7_put_15 : decode cX7_put 15 = .ok (.iload_n 1, 1) := by decide +kernel
theorem dX7_put_16 : decode cX7_put 16 = .ok (.castore, 1) := by decide +kernel
theorem dX7_put_17 : decode cX7_put 17 = .ok (.aload_n 0, 1) := by decide +kernel
theorem dX7_put_18 : decode cX7_put 18 = .ok (.dup, 1) := by decide +kernel
theorem dX7_put_19 : decode cX7_put 19 = .ok (.getfield 15, 3) := by decide +kernel
theorem dX7_put_22 : decode cX7_put 22 = .ok (.iconst 1, 1) := by decide +kernel
theorem dX7_put_23 : decode cX7_put 23 = .ok (.iadd, 1) := by decide +kernel
theorem dX7_put_24 : decode cX7_put 24 = .ok (.putfield 15, 3) := by decide +kernel
theorem dX7_put_27 : decode cX7_put 27 = .ok (.return_, 1) := by decide +kernel
theorem dX7_clear_0 : decode cX7_clear 0 = .ok (.aload_n 0, 1) := by decide +kernel
theorem dX7_clear_1 : decode cX7_clear 1 = .ok (.iconst 0, 1) := by decide +kernel
theorem dX7_clear_2 : decode cX7_clear 2 = .ok (.putfield 15, 3) := by decide +kernel
theorem dX7_clear_5 : decode cX7_clear 5 = .ok (.return_, 1) := by decide +kernel
theorem dX7_signAt_0 : decode cX7_signAt 0 = .ok (.iload_n 1, 1) := by decide +kernel
theorem dX7_signAt_1 : decode cX7_signAt 1 = .ok (.ifCond .lt 20, 3) := by decide +kernel
theorem dX7_signAt_4 : decode cX7_signAt 4 = .ok (.iload_n 1, 1) := by decide +kernel
theorem dX7_signAt_5 : decode cX7_signAt 5 = .ok (.aload_n 0, 1) := by decide +kernel
theorem dX7_signAt_6 : decode cX7_signAt 6 = .ok (.getfield 15, 3) := by decide +kernel
theorem dX7_signAt_9 : decode cX7_signAt 9 = .ok (.if_icmp .ge 12, 3) := by decide +kernel
theorem dX7_signAt_12 : decode cX7_signAt 12 = .ok (.aload_n 0, 1) := by decide +kernel
theorem dX7_signAt_13 : decode cX7_signAt 13 = .ok (.getfield 9, 3) := by decide +kernel
theorem dX7_signAt_16 : decode cX7_signAt 16 = .ok (.iload_n 1, 1) := by decide +kernel
theorem dX7_signAt_17 : decode cX7_signAt 17 = .ok (.caload, 1) := by decide +kernel
theorem dX7_signAt_18 : decode cX7_signAt 18 = .ok (.goto 5, 3) := by decide +kernel
theorem dX7_signAt_21 : decode cX7_signAt 21 = .ok (.bipush 32, 2) := by decide +kernel
theorem dX7_signAt_23 : decode cX7_signAt 23 = .ok (.ireturn, 1) := by decide +kernel
set_option maxRecDepth 20000 in
theorem ggX7_divideAll_X7_divide : GoodIn wsX7_divideAll wsX7_divide := goodIn_ca (goodIn_r _ [6, 7, 8, 9, 10, 11, 5, 12, 13, 14, 15, 16, 1, 17, 18, 19, 20, 21, 22, 23, 24, 25, 26, 27, 28, 29, 30, 31, 32, 33, 34, 35, 36, 37, 38, 39, 40, 41, 42, 43, 44, 45, 46, 47] (by decide +kernel) (by decide +kernel)) (goodIn_sub (fun _ h => List.mem_cons_of_mem _ (List.mem_append_right _ h)) (by decide +kernel))
set_option maxRecDepth 20000 in
theorem gX7_divideAll_X7_divide : GoodIn wsX7_divideAll (wsV RX7 32 RX7 yX7_divide wsX7_divide) := goodIn_app (goodIn_of _ (by decide +kernel)) ggX7_divideAll_X7_divide
theorem dX7_divideAll_0 : decode cX7_divideAll 0 = .ok (.aload_n 0, 1) := by decide +kernel
theorem dX7_divideAll_1 : decode cX7_divideAll 1 = .ok (.iconst 0, 1) := by decide +kernel
theorem dX7_divideAll_2 : decode cX7_divideAll 2 = .ok (.aload_n 0, 1) := by decide +kernel
theorem dX7_divideAll_3 : decode cX7_divideAll 3 = .ok (.getfield 15, 3) := by decide +kernel
theorem dX7_divideAll_6 : decode cX7_divideAll 6 = .ok (.aload_n 1, 1) := by decide +kernel
theorem dX7_divideAll_7 : decode cX7_divideAll 7 = .ok (.invokevirtual 32, 3) := by decide +kernel
theorem dX7_divideAll_10 : decode cX7_divideAll 10 = .ok (.return_, 1) := by decide +kernel
set_option maxRecDepth 20000 in
theorem ggX7_divide_X7_arePlain : GoodIn wsX7_divide wsX7_arePlain := goodIn_ca (goodIn_r _ [7, 8, 9, 10, 6, 11, 12, 13, 14, 15, 16, 36, 37, 38, 39] (by decide +kernel) (by decide +kernel)) (goodIn_sub (fun _ h => List.mem_cons_of_mem _ (List.mem_append_right _ h)) (by decide +kernel))
set_option maxRecDepth 20000 in
theorem gX7_divide_X7_arePlain : GoodIn wsX7_divide (wsV RX7 36 RX7 yX7_arePlain wsX7_arePlain) := goodIn_app (goodIn_of _ (by decide +kernel)) ggX7_divide_X7_arePlain
set_option maxRecDepth 20000 in
theorem ggX7_divide_X7_signAt : GoodIn wsX7_divide wsX7_signAt := goodIn_ca (goodIn_r _ [11, 12, 13, 36, 37, 38, 39] (by decide +kernel) (by decide +kernel)) (goodIn_sub (fun _ h => List.mem_cons_of_mem _ (List.mem_append_right _ h)) (by decide +kernel))
set_option maxRecDepth 20000 in
theorem gX7_divide_X7_signAt : GoodIn wsX7_divide (wsV RX7 40 RX7 yX7_signAt wsX7_signAt) := goodIn_app (goodIn_of _ (by decide +kernel)) ggX7_divide_X7_signAt
set_option maxRecDepth 20000 in
theorem ggX7_divide_X0_letterOfSigns : GoodIn wsX7_divide wsX0_letterOfSigns := goodIn_ca (goodIn_r _ [21, 22, 23, 24, 40, 41, 42, 43] (by decide +kernel) (by decide +kernel)) (goodIn_sub (fun _ h => List.mem_cons_of_mem _ (List.mem_append_right _ h)) (by decide +kernel))
set_option maxRecDepth 20000 in
theorem gX7_divide_X0_letterOfSigns : GoodIn wsX7_divide (wsV RX7 44 RX0 yX0_letterOfSigns wsX0_letterOfSigns) := goodIn_app (goodIn_of _ (by decide +kernel)) ggX7_divide_X0_letterOfSigns
theorem dX7_divide_0 : decode cX7_divide 0 = .ok (.aload_n 0, 1) := by decide +kernel
theorem dX7_divide_1 : decode cX7_divide 1 = .ok (.lconst 0, 1) := by decide +kernel
theorem dX7_divide_2 : decode cX7_divide 2 = .ok (.putfield 21, 3) := by decide +kernel
theorem dX7_divide_5 : decode cX7_divide 5 = .ok (.aload_n 0, 1) := by decide +kernel
theorem dX7_divide_6 : decode cX7_divide 6 = .ok (.iconst 0, 1) := by decide +kernel
theorem dX7_divide_7 : decode cX7_divide 7 = .ok (.putfield 25, 3) := by decide +kernel
theorem dX7_divide_10 : decode cX7_divide 10 = .ok (.aload_n 0, 1) := by decide +kernel
theorem dX7_divide_11 : decode cX7_divide 11 = .ok (.iload_n 1, 1) := by decide +kernel
theorem dX7_divide_12 : decode cX7_divide 12 = .ok (.iload_n 2, 1) := by decide +kernel
theorem dX7_divide_13 : decode cX7_divide 13 = .ok (.invokevirtual 36, 3) := by decide +kernel
theorem dX7_divide_16 : decode cX7_divide 16 = .ok (.ifCond .ne 4, 3) := by decide +kernel
theorem dX7_divide_19 : decode cX7_divide 19 = .ok (.return_, 1) := by decide +kernel
theorem dX7_divide_20 : decode cX7_divide 20 = .ok (.iload_n 1, 1) := by decide +kernel
theorem dX7_divide_21 : decode cX7_divide 21 = .ok (.istore 4, 2) := by decide +kernel
theorem dX7_divide_23 : decode cX7_divide 23 = .ok (.iload 4, 2) := by decide +kernel
theorem dX7_divide_25 : decode cX7_divide 25 = .ok (.iload_n 2, 1) := by decide +kernel
theorem dX7_divide_26 : decode cX7_divide 26 = .ok (.if_icmp .ge 95, 3) := by decide +kernel
theorem dX7_divide_29 : decode cX7_divide 29 = .ok (.iload 4, 2) := by decide +kernel
theorem dX7_divide_31 : decode cX7_divide 31 = .ok (.iconst 1, 1) := by decide +kernel
theorem dX7_divide_32 : decode cX7_divide 32 = .ok (.iadd, 1) := by decide +kernel
theorem dX7_divide_33 : decode cX7_divide 33 = .ok (.iload_n 2, 1) := by decide +kernel
theorem dX7_divide_34 : decode cX7_divide 34 = .ok (.if_icmp .ge 24, 3) := by decide +kernel
theorem dX7_divide_37 : decode cX7_divide 37 = .ok (.aload_n 3, 1) := by decide +kernel
theorem dX7_divide_38 : decode cX7_divide 38 = .ok (.aload_n 0, 1) := by decide +kernel
theorem dX7_divide_39 : decode cX7_divide 39 = .ok (.iload 4, 2) := by decide +kernel
theorem dX7_divide_41 : decode cX7_divide 41 = .ok (.invokevirtual 40, 3) := by decide +kernel
theorem dX7_divide_44 : decode cX7_divide 44 = .ok (.aload_n 0, 1) := by decide +kernel
theorem dX7_divide_45 : decode cX7_divide 45 = .ok (.iload 4, 2) := by decide +kernel
theorem dX7_divide_47 : decode cX7_divide 47 = .ok (.iconst 1, 1) := by decide +kernel
theorem dX7_divide_48 : decode cX7_divide 48 = .ok (.iadd, 1) := by decide +kernel
theorem dX7_divide_49 : decode cX7_divide 49 = .ok (.invokevirtual 40, 3) := by decide +kernel
theorem dX7_divide_52 : decode cX7_divide 52 = .ok (.invokevirtual 44, 3) := by decide +kernel
theorem dX7_divide_55 : decode cX7_divide 55 = .ok (.goto 4, 3) := by decide +kernel
theorem dX7_divide_58 : decode cX7_divide 58 = .ok (.iconst (-1), 1) := by decide +kernel
theorem dX7_divide_59 : decode cX7_divide 59 = .ok (.istore 5, 2) := by decide +kernel
theorem dX7_divide_61 : decode cX7_divide 61 = .ok (.aload_n 0, 1) := by decide +kernel
theorem dX7_divide_62 : decode cX7_divide 62 = .ok (.aload_n 0, 1) := by decide +kernel
theorem dX7_divide_63 : decode cX7_divide 63 = .ok (.getfield 21, 3) := by decide +kernel
theorem dX7_divide_66 : decode cX7_divide 66 = .ok (.iload 5, 2) := by decide +kernel
theorem dX7_divide_68 : decode cX7_divide 68 = .ok (.iconst (-1), 1) := by decide +kernel
theorem dX7_divide_69 : decode cX7_divide 69 = .ok (.if_icmp .ne 15, 3) := by decide +kernel
theorem dX7_divide_72 : decode cX7_divide 72 = .ok (.aload_n 0, 1) := by decide +kernel
theorem dX7_divide_73 : decode cX7_divide 73 = .ok (.iload 4, 2) := by decide +kernel
theorem dX7_divide_75 : decode cX7_divide 75 = .ok (.invokevirtual 40, 3) := by decide +kernel
theorem dX7_divide_78 : decode cX7_divide 78 = .ok (.bipush 97, 2) := by decide +kernel
theorem dX7_divide_80 : decode cX7_divide 80 = .ok (.isub, 1) := by decide +kernel
theorem dX7_divide_81 : decode cX7_divide 81 = .ok (.goto 5, 3) := by decide +kernel
theorem dX7_divide_84 : decode cX7_divide 84 = .ok (.iload 5, 2) := by decide +kernel
theorem dX7_divide_86 : decode cX7_divide 86 = .ok (.invokestatic 50, 3) := by decide +kernel
theorem dX7_divide_89 : decode cX7_divide 89 = .ok (.putfield 21, 3) := by decide +kernel
theorem dX7_divide_92 : decode cX7_divide 92 = .ok (.aload_n 0, 1) := by decide +kernel
theorem dX7_divide_93 : decode cX7_divide 93 = .ok (.dup, 1) := by decide +kernel
theorem dX7_divide_94 : decode cX7_divide 94 = .ok (.getfield 25, 3) := by decide +kernel
theorem dX7_divide_97 : decode cX7_divide 97 = .ok (.iconst 1, 1) := by decide +kernel
theorem dX7_divide_98 : decode cX7_divide 98 = .ok (.iadd, 1) := by decide +kernel
theorem dX7_divide_99 : decode cX7_divide 99 = .ok (.putfield 25, 3) := by decide +kernel
theorem dX7_divide_102 : decode cX7_divide 102 = .ok (.iload 4, 2) := by decide +kernel
theorem dX7_divide_104 : decode cX7_divide 104 = .ok (.iload 5, 2) := by decide +kernel
theorem dX7_divide_106 : decode cX7_divide 106 = .ok (.iconst (-1), 1) := by decide +kernel
theorem dX7_divide_107 : decode cX7_divide 107 = .ok (.if_icmp .ne 7, 3) := by decide +kernel
theorem dX7_divide_110 : decode cX7_divide 110 = .ok (.iconst 1, 1) := by decide +kernel
theorem dX7_divide_111 : decode cX7_divide 111 = .ok (.goto 4, 3) := by decide +kernel
theorem dX7_divide_114 : decode cX7_divide 114 = .ok (.iconst 2, 1) := by decide +kernel
theorem dX7_divide_115 : decode cX7_divide 115 = .ok (.iadd, 1) := by decide +kernel
theorem dX7_divide_116 : decode cX7_divide 116 = .ok (.istore 4, 2) := by decide +kernel
theorem dX7_divide_118 : decode cX7_divide 118 = .ok (.goto (-95), 3) := by decide +kernel
theorem dX7_divide_121 : decode cX7_divide 121 = .ok (.return_, 1) := by decide +kernel
set_option maxRecDepth 20000 in
theorem ggX7_arePlain_X7_signAt : GoodIn wsX7_arePlain wsX7_signAt := goodIn_ca (goodIn_r _ [5, 6, 7, 11, 12, 13, 14] (by decide +kernel) (by decide +kernel)) (goodIn_sub (fun _ h => List.mem_cons_of_mem _ (List.mem_append_right _ h)) (by decide +kernel))
set_option maxRecDepth 20000 in
theorem gX7_arePlain_X7_signAt : GoodIn wsX7_arePlain (wsV RX7 40 RX7 yX7_signAt wsX7_signAt) := goodIn_app (goodIn_of _ (by decide +kernel)) ggX7_arePlain_X7_signAt
set_option maxRecDepth 20000 in
theorem ggX7_arePlain_X11_isPlain : GoodIn wsX7_arePlain wsX11_isPlain := goodIn_r _ [10] (by decide +kernel) (by decide +kernel)
theorem dX7_arePlain_0 : decode cX7_arePlain 0 = .ok (.iload_n 1, 1) := by decide +kernel
theorem dX7_arePlain_1 : decode cX7_arePlain 1 = .ok (.istore_n 3, 1) := by decide +kernel
theorem dX7_arePlain_2 : decode cX7_arePlain 2 = .ok (.iload_n 3, 1) := by decide +kernel
theorem dX7_arePlain_3 : decode cX7_arePlain 3 = .ok (.iload_n 2, 1) := by decide +kernel
theorem dX7_arePlain_4 : decode cX7_arePlain 4 = .ok (.if_icmp .ge 22, 3) := by decide +kernel
theorem dX7_arePlain_7 : decode cX7_arePlain 7 = .ok (.aload_n 0, 1) := by decide +kernel
theorem dX7_arePlain_8 : decode cX7_arePlain 8 = .ok (.iload_n 3, 1) := by decide +kernel
theorem dX7_arePlain_9 : decode cX7_arePlain 9 = .ok (.invokevirtual 40, 3) := by decide +kernel
theorem dX7_arePlain_12 : decode cX7_arePlain 12 = .ok (.invokestatic 54, 3) := by decide +kernel
theorem dX7_arePlain_15 : decode cX7_arePlain 15 = .ok (.ifCond .ne 5, 3) := by decide +kernel
theorem dX7_arePlain_18 : decode cX7_arePlain 18 = .ok (.iconst 0, 1) := by decide +kernel
theorem dX7_arePlain_19 : decode cX7_arePlain 19 = .ok (.ireturn, 1) := by decide +kernel
theorem dX7_arePlain_20 : decode cX7_arePlain 20 = .ok (.iinc 3 1, 3) := by decide +kernel
theorem dX7_arePlain_23 : decode cX7_arePlain 23 = .ok (.goto (-21), 3) := by decide +kernel
theorem dX7_arePlain_26 : decode cX7_arePlain 26 = .ok (.iconst 1, 1) := by decide +kernel
theorem dX7_arePlain_27 : decode cX7_arePlain 27 = .ok (.ireturn, 1) := by decide +kernel
theorem dX7_letters_0 : decode cX7_letters 0 = .ok (.aload_n 0, 1) := by decide +kernel
theorem dX7_letters_1 : decode cX7_letters 1 = .ok (.getfield 25, 3) := by decide +kernel
theorem dX7_letters_4 : decode cX7_letters 4 = .ok (.ireturn, 1) := by decide +kernel
theorem dX7_isForm_0 : decode cX7_isForm 0 = .ok (.aload_n 0, 1) := by decide +kernel
theorem dX7_isForm_1 : decode cX7_isForm 1 = .ok (.getfield 25, 3) := by decide +kernel
theorem dX7_isForm_4 : decode cX7_isForm 4 = .ok (.iconst 1, 1) := by decide +kernel
theorem dX7_isForm_5 : decode cX7_isForm 5 = .ok (.if_icmp .lt 16, 3) := by decide +kernel
theorem dX7_isForm_8 : decode cX7_isForm 8 = .ok (.aload_n 0, 1) := by decide +kernel
theorem dX7_isForm_9 : decode cX7_isForm 9 = .ok (.getfield 25, 3) := by decide +kernel
theorem dX7_isForm_12 : decode cX7_isForm 12 = .ok (.bipush 8, 2) := by decide +kernel
theorem dX7_isForm_14 : decode cX7_isForm 14 = .ok (.if_icmp .gt 7, 3) := by decide +kernel
theorem dX7_isForm_17 : decode cX7_isForm 17 = .ok (.iconst 1, 1) := by decide +kernel
theorem dX7_isForm_18 : decode cX7_isForm 18 = .ok (.goto 4, 3) := by decide +kernel
theorem dX7_isForm_21 : decode cX7_isForm 21 = .ok (.iconst 0, 1) := by decide +kernel
theorem dX7_isForm_22 : decode cX7_isForm 22 = .ok (.ireturn, 1) := by decide +kernel
set_option maxRecDepth 20000 in
theorem ggX8_init_X5_init : GoodIn wsX8_init wsX5_init := goodIn_r _ [11, 12, 2, 3, 13, 14, 15, 16, 19, 20, 21] (by decide +kernel) (by decide +kernel)
set_option maxRecDepth 20000 in
theorem gX8_init_X5_init : GoodIn wsX8_init (wsX5_init) := ggX8_init_X5_init
theorem dX8_init_0 : decode cX8_init 0 = .ok (.aload_n 0, 1) := by decide +kernel
theorem dX8_init_1 : decode cX8_init 1 = .ok (.invokespecial 3, 3) := by decide +kernel
theorem dX8_init_4 : decode cX8_init 4 = .ok (.aload_n 0, 1) := by decide +kernel
theorem dX8_init_5 : decode cX8_init 5 = .ok (.bipush 20, 2) := by decide +kernel
theorem dX8_init_7 : decode cX8_init 7 = .ok (.anewarray 9, 3) := by decide +kernel
theorem dX8_init_10 : decode cX8_init 10 = .ok (.putfield 11, 3) := by decide +kernel
theorem dX8_init_13 : decode cX8_init 13 = .ok (.aload_n 0, 1) := by decide +kernel
theorem dX8_init_14 : decode cX8_init 14 = .ok (.iconst 0, 1) := by decide +kernel
theorem dX8_init_15 : decode cX8_init 15 = .ok (.putfield 17, 3) := by decide +kernel
theorem dX8_init_18 : decode cX8_init 18 = .ok (.iconst 0, 1) := by decide +kernel
theorem dX8_init_19 : decode cX8_init 19 = .ok (.istore_n 1, 1) := by decide +kernel
theorem dX8_init_20 : decode cX8_init 20 = .ok (.iload_n 1, 1) := by decide +kernel
theorem dX8_init_21 : decode cX8_init 21 = .ok (.bipush 20, 2) := by decide +kernel
theorem dX8_init_23 : decode cX8_init 23 = .ok (.if_icmp .ge 22, 3) := by decide +kernel
theorem dX8_init_26 : decode cX8_init 26 = .ok (.aload_n 0, 1) := by decide +kernel
theorem dX8_init_27 : decode cX8_init 27 = .ok (.getfield 11, 3) := by decide +kernel
theorem dX8_init_30 : decode cX8_init 30 = .ok (.iload_n 1, 1) := by decide +kernel
theorem dX8_init_31 : decode cX8_init 31 = .ok (.new 9, 3) := by decide +kernel
theorem dX8_init_34 : decode cX8_init 34 = .ok (.dup, 1) := by decide +kernel
theorem dX8_init_35 : decode cX8_init 35 = .ok (.invokespecial 21, 3) := by decide +kernel
theorem dX8_init_38 : decode cX8_init 38 = .ok (.aastore, 1) := by decide +kernel
theorem dX8_init_39 : decode cX8_init 39 = .ok (.iinc 1 1, 3) := by decide +kernel
theorem dX8_init_42 : decode cX8_init 42 = .ok (.goto (-22), 3) := by decide +kernel
theorem dX8_init_45 : decode cX8_init 45 = .ok (.return_, 1) := by decide +kernel
theorem dX8_copyFrom_0 : decode cX8_copyFrom 0 = .ok (.iconst 0, 1) := by decide +kernel
theorem dX8_copyFrom_1 : decode cX8_copyFrom 1 = .ok (.istore_n 2, 1) := by decide +kernel
theorem dX8_copyFrom_2 : decode cX8_copyFrom 2 = .ok (.iload_n 2, 1) := by decide +kernel
theorem dX8_copyFrom_3 : decode cX8_copyFrom 3 = .ok (.aload_n 1, 1) := by decide +kernel
theorem dX8_copyFrom_4 : decode cX8_copyFrom 4 = .ok (.getfield 17, 3) := by decide +kernel
theorem dX8_copyFrom_7 : decode cX8_copyFrom 7 = .ok (.if_icmp .ge 24, 3) := by decide +kernel
theorem dX8_copyFrom_10 : decode cX8_copyFrom 10 = .ok (.aload_n 0, 1) := by decide +kernel
theorem dX8_copyFrom_11 : decode cX8_copyFrom 11 = .ok (.getfield 11, 3) := by decide +kernel
theorem dX8_copyFrom_14 : decode cX8_copyFrom 14 = .ok (.iload_n 2, 1) := by decide +kernel
theorem dX8_copyFrom_15 : decode cX8_copyFrom 15 = .ok (.aaload, 1) := by decide +kernel
theorem dX8_copyFrom_16 : decode cX8_copyFrom 16 = .ok (.aload_n 1, 1) := by decide +kernel
theorem dX8_copyFrom_17 : decode cX8_copyFrom 17 = .ok (.getfield 11, 3) := by decide +kernel
theorem dX8_copyFrom_20 : decode cX8_copyFrom 20 = .ok (.iload_n 2, 1) := by decide +kernel
theorem dX8_copyFrom_21 : decode cX8_copyFrom 21 = .ok (.aaload, 1) := by decide +kernel
theorem dX8_copyFrom_22 : decode cX8_copyFrom 22 = .ok (.invokevirtual 22, 3) := by decide +kernel
theorem dX8_copyFrom_25 : decode cX8_copyFrom 25 = .ok (.iinc 2 1, 3) := by decide +kernel
theorem dX8_copyFrom_28 : decode cX8_copyFrom 28 = .ok (.goto (-26), 3) := by decide +kernel
theorem dX8_copyFrom_31 : decode cX8_copyFrom 31 = .ok (.aload_n 0, 1) := by decide +kernel
theorem dX8_copyFrom_32 : decode cX8_copyFrom 32 = .ok (.aload_n 1, 1) := by decide +kernel
theorem dX8_copyFrom_33 : decode cX8_copyFrom 33 = .ok (.getfield 17, 3) := by decide +kernel
theorem dX8_copyFrom_36 : decode cX8_copyFrom 36 = .ok (.putfield 17, 3) := by decide +kernel
theorem dX8_copyFrom_39 : decode cX8_copyFrom 39 = .ok (.return_, 1) := by decide +kernel
theorem dX8_count_0 : decode cX8_count 0 = .ok (.aload_n 0, 1) := by decide +kernel
theorem dX8_count_1 : decode cX8_count 1 = .ok (.getfield 17, 3) := by decide +kernel
theorem dX8_count_4 : decode cX8_count 4 = .ok (.ireturn, 1) := by decide +kernel
theorem dX8_hasHeadword_0 : decode cX8_hasHeadword 0 = .ok (.iload_n 1, 1) := by decide +kernel
theorem dX8_hasHeadword_1 : decode cX8_hasHeadword 1 = .ok (.ifCond .lt 15, 3) := by decide +kernel
theorem dX8_hasHeadword_4 : decode cX8_hasHeadword 4 = .ok (.iload_n 1, 1) := by decide +kernel
theorem dX8_hasHeadword_5 : decode cX8_hasHeadword 5 = .ok (.aload_n 0, 1) := by decide +kernel
theorem dX8_hasHeadword_6 : decode cX8_hasHeadword 6 = .ok (.getfield 17, 3) := by decide +kernel
theorem dX8_hasHeadword_9 : decode cX8_hasHeadword 9 = .ok (.if_icmp .ge 7, 3) := by decide +kernel
theorem dX8_hasHeadword_12 : decode cX8_hasHeadword 12 = .ok (.iconst 1, 1) := by decide +kernel
theorem dX8_hasHeadword_13 : decode cX8_hasHeadword 13 = .ok (.goto 4, 3) := by decide +kernel
theorem dX8_hasHeadword_16 : decode cX8_hasHeadword 16 = .ok (.iconst 0, 1) := by decide +kernel
theorem dX8_hasHeadword_17 : decode cX8_hasHeadword 17 = .ok (.ireturn, 1) := by decide +kernel
theorem dX8_formCount_0 : decode cX8_formCount 0 = .ok (.iconst 0, 1) := by decide +kernel
theorem dX8_formCount_1 : decode cX8_formCount 1 = .ok (.istore_n 1, 1) := by decide +kernel
theorem dX8_formCount_2 : decode cX8_formCount 2 = .ok (.iconst 0, 1) := by decide +kernel
theorem dX8_formCount_3 : decode cX8_formCount 3 = .ok (.istore_n 2, 1) := by decide +kernel
theorem dX8_formCount_4 : decode cX8_formCount 4 = .ok (.iload_n 2, 1) := by decide +kernel
theorem dX8_formCount_5 : decode cX8_formCount 5 = .ok (.aload_n 0, 1) := by decide +kernel
theorem dX8_formCount_6 : decode cX8_formCount 6 = .ok (.getfield 17, 3) := by decide +kernel
theorem dX8_formCount_9 : decode cX8_formCount 9 = .ok (.if_icmp .ge 21, 3) := by decide +kernel
theorem dX8_formCount_12 : decode cX8_formCount 12 = .ok (.iload_n 1, 1) := by decide +kernel
theorem dX8_formCount_13 : decode cX8_formCount 13 = .ok (.aload_n 0, 1) := by decide +kernel
theorem dX8_formCount_14 : decode cX8_formCount 14 = .ok (.getfield 11, 3) := by decide +kernel
theorem dX8_formCount_17 : decode cX8_formCount 17 = .ok (.iload_n 2, 1) := by decide +kernel
theorem dX8_formCount_18 : decode cX8_formCount 18 = .ok (.aaload, 1) := by decide +kernel
theorem dX8_formCount_19 : decode cX8_formCount 19 = .ok (.invokevirtual 30, 3) := by decide +kernel
theorem dX8_formCount_22 : decode cX8_formCount 22 = .ok (.iadd, 1) := by decide +kernel
theorem dX8_formCount_23 : decode cX8_formCount 23 = .ok (.istore_n 1, 1) := by decide +kernel
theorem dX8_formCount_24 : decode cX8_formCount 24 = .ok (.iinc 2 1, 3) := by decide +kernel
theorem dX8_formCount_27 : decode cX8_formCount 27 = .ok (.goto (-23), 3) := by decide +kernel
theorem dX8_formCount_30 : decode cX8_formCount 30 = .ok (.iload_n 1, 1) := by decide +kernel
theorem dX8_formCount_31 : decode cX8_formCount 31 = .ok (.ireturn, 1) := by decide +kernel
theorem dX8_lettersOfAllForms_0 : decode cX8_lettersOfAllForms 0 = .ok (.iconst 0, 1) := by decide +kernel
theorem dX8_lettersOfAllForms_1 : decode cX8_lettersOfAllForms 1 = .ok (.istore_n 1, 1) := by decide +kernel
theorem dX8_lettersOfAllForms_2 : decode cX8_lettersOfAllForms 2 = .ok (.iconst 0, 1) := by decide +kernel
theorem dX8_lettersOfAllForms_3 : decode cX8_lettersOfAllForms 3 = .ok (.istore_n 2, 1) := by decide +kernel
theorem dX8_lettersOfAllForms_4 : decode cX8_lettersOfAllForms 4 = .ok (.iload_n 2, 1) := by decide +kernel
theorem dX8_lettersOfAllForms_5 : decode cX8_lettersOfAllForms 5 = .ok (.aload_n 0, 1) := by decide +kernel
theorem dX8_lettersOfAllForms_6 : decode cX8_lettersOfAllForms 6 = .ok (.getfield 17, 3) := by decide +kernel
theorem dX8_lettersOfAllForms_9 : decode cX8_lettersOfAllForms 9 = .ok (.if_icmp .ge 21, 3) := by decide +kernel
theorem dX8_lettersOfAllForms_12 : decode cX8_lettersOfAllForms 12 = .ok (.iload_n 1, 1) := by decide +kernel
theorem dX8_lettersOfAllForms_13 : decode cX8_lettersOfAllForms 13 = .ok (.aload_n 0, 1) := by decide +kernel
theorem dX8_lettersOfAllForms_14 : decode cX8_lettersOfAllForms 14 = .ok (.getfield 11, 3) := by decide +kernel
theorem dX8_lettersOfAllForms_17 : decode cX8_lettersOfAllForms 17 = .ok (.iload_n 2, 1) := by decide +kernel
theorem dX8_lettersOfAllForms_18 : decode cX8_lettersOfAllForms 18 = .ok (.aaload, 1) := by decide +kernel
theorem dX8_lettersOfAllForms_19 : decode cX8_lettersOfAllForms 19 = .ok (.invokevirtual 34, 3) := by decide +kernel
theorem dX8_lettersOfAllForms_22 : decode cX8_lettersOfAllForms 22 = .ok (.iadd, 1) := by decide +kernel
theorem dX8_lettersOfAllForms_23 : decode cX8_lettersOfAllForms 23 = .ok (.istore_n 1, 1) := by decide +kernel
theorem dX8_lettersOfAllForms_24 : decode cX8_lettersOfAllForms 24 = .ok (.iinc 2 1, 3) := by decide +kernel
theorem dX8_lettersOfAllForms_27 : decode cX8_lettersOfAllForms 27 = .ok (.goto (-23), 3) := by decide +kernel
theorem dX8_lettersOfAllForms_30 : decode cX8_lettersOfAllForms 30 = .ok (.iload_n 1, 1) := by decide +kernel
theorem dX8_lettersOfAllForms_31 : decode cX8_lettersOfAllForms 31 = .ok (.ireturn, 1) := by decide +kernel
theorem dX8_references_0 : decode cX8_references 0 = .ok (.iconst 0, 1) := by decide +kernel
theorem dX8_references_1 : decode cX8_references 1 = .ok (.istore_n 1, 1) := by decide +kernel
theorem dX8_references_2 : decode cX8_references 2 = .ok (.iconst 0, 1) := by decide +kernel
theorem dX8_references_3 : decode cX8_references 3 = .ok (.istore_n 2, 1) := by decide +kernel
theorem dX8_references_4 : decode cX8_references 4 = .ok (.iload_n 2, 1) := by decide +kernel
theorem dX8_references_5 : decode cX8_references 5 = .ok (.aload_n 0, 1) := by decide +kernel
theorem dX8_references_6 : decode cX8_references 6 = .ok (.getfield 17, 3) := by decide +kernel
theorem dX8_references_9 : decode cX8_references 9 = .ok (.if_icmp .ge 25, 3) := by decide +kernel
theorem dX8_references_12 : decode cX8_references 12 = .ok (.aload_n 0, 1) := by decide +kernel
theorem dX8_references_13 : decode cX8_references 13 = .ok (.getfield 11, 3) := by decide +kernel
theorem dX8_references_16 : decode cX8_references 16 = .ok (.iload_n 2, 1) := by decide +kernel
theorem dX8_references_17 : decode cX8_references 17 = .ok (.aaload, 1) := by decide +kernel
theorem dX8_references_18 : decode cX8_references 18 = .ok (.invokevirtual 41, 3) := by decide +kernel
theorem dX8_references_21 : decode cX8_references 21 = .ok (.iconst (-1), 1) := by decide +kernel
theorem dX8_references_22 : decode cX8_references 22 = .ok (.if_icmp .eq 6, 3) := by decide +kernel
theorem dX8_references_25 : decode cX8_references 25 = .ok (.iinc 1 1, 3) := by decide +kernel
theorem dX8_references_28 : decode cX8_references 28 = .ok (.iinc 2 1, 3) := by decide +kernel
theorem dX8_references_31 : decode cX8_references 31 = .ok (.goto (-27), 3) := by decide +kernel
theorem dX8_references_34 : decode cX8_references 34 = .ok (.iload_n 1, 1) := by decide +kernel
theorem dX8_references_35 : decode cX8_references 35 = .ok (.ireturn, 1) := by decide +kernel
theorem dX8_unconnected_0 : decode cX8_unconnected 0 = .ok (.iconst 0, 1) := by decide +kernel
theorem dX8_unconnected_1 : decode cX8_unconnected 1 = .ok (.istore_n 1, 1) := by decide +kernel
theorem dX8_unconnected_2 : decode cX8_unconnected 2 = .ok (.iconst 0, 1) := by decide +kernel
theorem dX8_unconnected_3 : decode cX8_unconnected 3 = .ok (.istore_n 2, 1) := by decide +kernel
theorem dX8_unconnected_4 : decode cX8_unconnected 4 = .ok (.iload_n 2, 1) := by decide +kernel
theorem dX8_unconnected_5 : decode cX8_unconnected 5 = .ok (.aload_n 0, 1) := by decide +kernel
theorem dX8_unconnected_6 : decode cX8_unconnected 6 = .ok (.getfield 17, 3) := by decide +kernel
theorem dX8_unconnected_9 : decode cX8_unconnected 9 = .ok (.if_icmp .ge 33, 3) := by decide +kernel
theorem dX8_unconnected_12 : decode cX8_unconnected 12 = .ok (.aload_n 0, 1) := by decide +kernel
theorem dX8_unconnected_13 : decode cX8_unconnected 13 = .ok (.getfield 11, 3) := by decide +kernel
theorem dX8_unconnected_16 : decode cX8_unconnected 16 = .ok (.iload_n 2, 1) := by decide +kernel
theorem dX8_unconnected_17 : decode cX8_unconnected 17 = .ok (.aaload, 1) := by decide +kernel
theorem dX8_unconnected_18 : decode cX8_unconnected 18 = .ok (.invokevirtual 41, 3) := by decide +kernel
theorem dX8_unconnected_21 : decode cX8_unconnected 21 = .ok (.iconst (-1), 1) := by decide +kernel
theorem dX8_unconnected_22 : decode cX8_unconnected 22 = .ok (.if_icmp .ne 14, 3) := by decide +kernel
theorem dX8_unconnected_25 : decode cX8_unconnected 25 = .ok (.aload_n 0, 1) := by decide +kernel
theorem dX8_unconnected_26 : decode cX8_unconnected 26 = .ok (.iload_n 2, 1) := by decide +kernel
theorem dX8_unconnected_27 : decode cX8_unconnected 27 = .ok (.invokevirtual 44, 3) := by decide +kernel
theorem dX8_unconnected_30 : decode cX8_unconnected 30 = .ok (.ifCond .ne 6, 3) := by decide +kernel
theorem dX8_unconnected_33 : decode cX8_unconnected 33 = .ok (.iinc 1 1, 3) := by decide +kernel
theorem dX8_unconnected_36 : decode cX8_unconnected 36 = .ok (.iinc 2 1, 3) := by decide +kernel
theorem dX8_unconnected_39 : decode cX8_unconnected 39 = .ok (.goto (-35), 3) := by decide +kernel
theorem dX8_unconnected_42 : decode cX8_unconnected 42 = .ok (.iload_n 1, 1) := by decide +kernel
theorem dX8_unconnected_43 : decode cX8_unconnected 43 = .ok (.ireturn, 1) := by decide +kernel
theorem dX8_atPlaceInOrder_0 : decode cX8_atPlaceInOrder 0 = .ok (.iconst 0, 1) := by decide +kernel
theorem dX8_atPlaceInOrder_1 : decode cX8_atPlaceInOrder 1 = .ok (.istore_n 3, 1) := by decide +kernel
theorem dX8_atPlaceInOrder_2 : decode cX8_atPlaceInOrder 2 = .ok (.iload_n 3, 1) := by decide +kernel
theorem dX8_atPlaceInOrder_3 : decode cX8_atPlaceInOrder 3 = .ok (.aload_n 0, 1) := by decide +kernel
theorem dX8_atPlaceInOrder_4 : decode cX8_atPlaceInOrder 4 = .ok (.getfield 17, 3) := by decide +kernel
theorem dX8_atPlaceInOrder_7 : decode cX8_atPlaceInOrder 7 = .ok (.if_icmp .ge 21, 3) := by decide +kernel
theorem dX8_atPlaceInOrder_10 : decode cX8_atPlaceInOrder 10 = .ok (.aload_n 0, 1) := by decide +kernel
theorem dX8_atPlaceInOrder_11 : decode cX8_atPlaceInOrder 11 = .ok (.iload_n 3, 1) := by decide +kernel
theorem dX8_atPlaceInOrder_12 : decode cX8_atPlaceInOrder 12 = .ok (.aload_n 2, 1) := by decide +kernel
theorem dX8_atPlaceInOrder_13 : decode cX8_atPlaceInOrder 13 = .ok (.invokevirtual 62, 3) := by decide +kernel
theorem dX8_atPlaceInOrder_16 : decode cX8_atPlaceInOrder 16 = .ok (.iload_n 1, 1) := by decide +kernel
theorem dX8_atPlaceInOrder_17 : decode cX8_atPlaceInOrder 17 = .ok (.if_icmp .ne 5, 3) := by decide +kernel
theorem dX8_atPlaceInOrder_20 : decode cX8_atPlaceInOrder 20 = .ok (.iload_n 3, 1) := by decide +kernel
theorem dX8_atPlaceInOrder_21 : decode cX8_atPlaceInOrder 21 = .ok (.ireturn, 1) := by decide +kernel
theorem dX8_atPlaceInOrder_22 : decode cX8_atPlaceInOrder 22 = .ok (.iinc 3 1, 3) := by decide +kernel
theorem dX8_atPlaceInOrder_25 : decode cX8_atPlaceInOrder 25 = .ok (.goto (-23), 3) := by decide +kernel
theorem dX8_atPlaceInOrder_28 : decode cX8_atPlaceInOrder 28 = .ok (.iconst (-1), 1) := by decide +kernel
theorem dX8_atPlaceInOrder_29 : decode cX8_atPlaceInOrder 29 = .ok (.ireturn, 1) := by decide +kernel
set_option maxRecDepth 20000 in
theorem ggX8_isMakingRefused_X8_isTextRefused : GoodIn wsX8_isMakingRefused wsX8_isTextRefused := goodIn_ca (goodIn_r _ [7, 8, 9, 10, 11, 12, 13, 14, 15, 16, 17, 18, 19, 20, 21, 22, 23, 24, 25, 26, 27, 28, 29, 30, 31, 32, 33, 6, 34, 2, 1, 35, 36, 37, 38, 39, 40, 41, 61, 62, 63, 64, 65, 66, 67, 59, 60, 68, 69, 70] (by decide +kernel) (by decide +kernel)) (goodIn_sub (fun _ h => List.mem_cons_of_mem _ (List.mem_append_right _ h)) (by decide +kernel))
set_option maxRecDepth 20000 in
theorem gX8_isMakingRefused_X8_isTextRefused : GoodIn wsX8_isMakingRefused (wsV RX8 66 RX8 yX8_isTextRefused wsX8_isTextRefused) := goodIn_app (goodIn_of _ (by decide +kernel)) ggX8_isMakingRefused_X8_isTextRefused
theorem dX8_isMakingRefused_0 : decode cX8_isMakingRefused 0 = .ok (.aload_n 0, 1) := by decide +kernel
theorem dX8_isMakingRefused_1 : decode cX8_isMakingRefused 1 = .ok (.iconst 1, 1) := by decide +kernel
theorem dX8_isMakingRefused_2 : decode cX8_isMakingRefused 2 = .ok (.iconst (-1), 1) := by decide +kernel
theorem dX8_isMakingRefused_3 : decode cX8_isMakingRefused 3 = .ok (.aload_n 1, 1) := by decide +kernel
theorem dX8_isMakingRefused_4 : decode cX8_isMakingRefused 4 = .ok (.aload_n 2, 1) := by decide +kernel
theorem dX8_isMakingRefused_5 : decode cX8_isMakingRefused 5 = .ok (.invokevirtual 66, 3) := by decide +kernel
theorem dX8_isMakingRefused_8 : decode cX8_isMakingRefused 8 = .ok (.ifCond .ne 13, 3) := by decide +kernel
theorem dX8_isMakingRefused_11 : decode cX8_isMakingRefused 11 = .ok (.aload_n 0, 1) := by decide +kernel
theorem dX8_isMakingRefused_12 : decode cX8_isMakingRefused 12 = .ok (.iconst 1, 1) := by decide +kernel
theorem dX8_isMakingRefused_13 : decode cX8_isMakingRefused 13 = .ok (.iconst (-1), 1) := by decide +kernel
theorem dX8_isMakingRefused_14 : decode cX8_isMakingRefused 14 = .ok (.aload_n 2, 1) := by decide +kernel
theorem dX8_isMakingRefused_15 : decode cX8_isMakingRefused 15 = .ok (.invokevirtual 70, 3) := by decide +kernel
theorem dX8_isMakingRefused_18 : decode cX8_isMakingRefused 18 = .ok (.ifCond .eq 5, 3) := by decide +kernel
theorem dX8_isMakingRefused_21 : decode cX8_isMakingRefused 21 = .ok (.iconst 1, 1) := by decide +kernel
theorem dX8_isMakingRefused_22 : decode cX8_isMakingRefused 22 = .ok (.ireturn, 1) := by decide +kernel
theorem dX8_isMakingRefused_23 : decode cX8_isMakingRefused 23 = .ok (.aload_n 0, 1) := by decide +kernel
theorem dX8_isMakingRefused_24 : decode cX8_isMakingRefused 24 = .ok (.getfield 11, 3) := by decide +kernel
theorem dX8_isMakingRefused_27 : decode cX8_isMakingRefused 27 = .ok (.aload_n 0, 1) := by decide +kernel
theorem dX8_isMakingRefused_28 : decode cX8_isMakingRefused 28 = .ok (.getfield 17, 3) := by decide +kernel
theorem dX8_isMakingRefused_31 : decode cX8_isMakingRefused 31 = .ok (.aaload, 1) := by decide +kernel
theorem dX8_isMakingRefused_32 : decode cX8_isMakingRefused 32 = .ok (.aload_n 1, 1) := by decide +kernel
theorem dX8_isMakingRefused_33 : decode cX8_isMakingRefused 33 = .ok (.invokevirtual 74, 3) := by decide +kernel
theorem dX8_isMakingRefused_36 : decode cX8_isMakingRefused 36 = .ok (.invokevirtual 79, 3) := by decide +kernel
theorem dX8_isMakingRefused_39 : decode cX8_isMakingRefused 39 = .ok (.aload_n 0, 1) := by decide +kernel
theorem dX8_isMakingRefused_40 : decode cX8_isMakingRefused 40 = .ok (.dup, 1) := by decide +kernel
theorem dX8_isMakingRefused_41 : decode cX8_isMakingRefused 41 = .ok (.getfield 17, 3) := by decide +kernel
theorem dX8_isMakingRefused_44 : decode cX8_isMakingRefused 44 = .ok (.iconst 1, 1) := by decide +kernel
theorem dX8_isMakingRefused_45 : decode cX8_isMakingRefused 45 = .ok (.iadd, 1) := by decide +kernel
theorem dX8_isMakingRefused_46 : decode cX8_isMakingRefused 46 = .ok (.putfield 17, 3) := by decide +kernel
theorem dX8_isMakingRefused_49 : decode cX8_isMakingRefused 49 = .ok (.iconst 0, 1) := by decide +kernel
theorem dX8_isMakingRefused_50 : decode cX8_isMakingRefused 50 = .ok (.ireturn, 1) := by decide +kernel
set_option maxRecDepth 20000 in
theorem ggX8_isTextRefused_X7_isForm : GoodIn wsX8_isTextRefused wsX7_isForm := goodIn_r _ [5, 6, 38, 39, 40, 41] (by decide +kernel) (by decide +kernel)
set_option maxRecDepth 20000 in
theorem gX8_isTextRefused_X7_isForm : GoodIn wsX8_isTextRefused (wsV RX8 98 RX7 yX7_isForm wsX7_isForm) := goodIn_app (goodIn_of _ (by decide +kernel)) ggX8_isTextRefused_X7_isForm
set_option maxRecDepth 20000 in
theorem ggX8_isTextRefused_X7_letters : GoodIn wsX8_isTextRefused wsX7_letters := goodIn_r _ [10, 6, 38, 39, 40, 41] (by decide +kernel) (by decide +kernel)
set_option maxRecDepth 20000 in
theorem gX8_isTextRefused_X7_letters : GoodIn wsX8_isTextRefused (wsV RX8 102 RX7 yX7_letters wsX7_letters) := goodIn_app (goodIn_of _ (by decide +kernel)) ggX8_isTextRefused_X7_letters
set_option maxRecDepth 20000 in
theorem ggX8_isTextRefused_X9_write : GoodIn wsX8_isTextRefused wsX9_write := goodIn_ca (goodIn_r _ [15, 16, 17, 18, 42, 43, 44] (by decide +kernel) (by decide +kernel)) (goodIn_sub (fun _ h => List.mem_cons_of_mem _ (List.mem_append_right _ h)) (by decide +kernel))
set_option maxRecDepth 20000 in
theorem gX8_isTextRefused_X9_write : GoodIn wsX8_isTextRefused (wsV RX8 86 RX9 yX9_write wsX9_write) := goodIn_app (goodIn_of _ (by decide +kernel)) ggX8_isTextRefused_X9_write
theorem dX8_isTextRefused_0 : decode cX8_isTextRefused 0 = .ok (.aload_n 3, 1) := by decide +kernel
theorem dX8_isTextRefused_1 : decode cX8_isTextRefused 1 = .ok (.invokevirtual 98, 3) := by decide +kernel
theorem dX8_isTextRefused_4 : decode cX8_isTextRefused 4 = .ok (.ifCond .ne 17, 3) := by decide +kernel
theorem dX8_isTextRefused_7 : decode cX8_isTextRefused 7 = .ok (.aload 4, 2) := by decide +kernel
theorem dX8_isTextRefused_9 : decode cX8_isTextRefused 9 = .ok (.iload_n 1, 1) := by decide +kernel
theorem dX8_isTextRefused_10 : decode cX8_isTextRefused 10 = .ok (.iload_n 2, 1) := by decide +kernel
theorem dX8_isTextRefused_11 : decode cX8_isTextRefused 11 = .ok (.iconst 1, 1) := by decide +kernel
theorem dX8_isTextRefused_12 : decode cX8_isTextRefused 12 = .ok (.aload_n 3, 1) := by decide +kernel
theorem dX8_isTextRefused_13 : decode cX8_isTextRefused 13 = .ok (.invokevirtual 102, 3) := by decide +kernel
theorem dX8_isTextRefused_16 : decode cX8_isTextRefused 16 = .ok (.invokevirtual 86, 3) := by decide +kernel
theorem dX8_isTextRefused_19 : decode cX8_isTextRefused 19 = .ok (.iconst 1, 1) := by decide +kernel
theorem dX8_isTextRefused_20 : decode cX8_isTextRefused 20 = .ok (.ireturn, 1) := by decide +kernel
theorem dX8_isTextRefused_21 : decode cX8_isTextRefused 21 = .ok (.aload_n 0, 1) := by decide +kernel
theorem dX8_isTextRefused_22 : decode cX8_isTextRefused 22 = .ok (.aload_n 3, 1) := by decide +kernel
theorem dX8_isTextRefused_23 : decode cX8_isTextRefused 23 = .ok (.invokevirtual 74, 3) := by decide +kernel
theorem dX8_isTextRefused_26 : decode cX8_isTextRefused 26 = .ok (.invokevirtual 103, 3) := by decide +kernel
theorem dX8_isTextRefused_29 : decode cX8_isTextRefused 29 = .ok (.istore 5, 2) := by decide +kernel
theorem dX8_isTextRefused_31 : decode cX8_isTextRefused 31 = .ok (.iload 5, 2) := by decide +kernel
theorem dX8_isTextRefused_33 : decode cX8_isTextRefused 33 = .ok (.iconst (-1), 1) := by decide +kernel
theorem dX8_isTextRefused_34 : decode cX8_isTextRefused 34 = .ok (.if_icmp .eq 15, 3) := by decide +kernel
theorem dX8_isTextRefused_37 : decode cX8_isTextRefused 37 = .ok (.aload 4, 2) := by decide +kernel
theorem dX8_isTextRefused_39 : decode cX8_isTextRefused 39 = .ok (.iload_n 1, 1) := by decide +kernel
theorem dX8_isTextRefused_40 : decode cX8_isTextRefused 40 = .ok (.iload_n 2, 1) := by decide +kernel
theorem dX8_isTextRefused_41 : decode cX8_isTextRefused 41 = .ok (.iconst 2, 1) := by decide +kernel
theorem dX8_isTextRefused_42 : decode cX8_isTextRefused 42 = .ok (.iload 5, 2) := by decide +kernel
theorem dX8_isTextRefused_44 : decode cX8_isTextRefused 44 = .ok (.invokevirtual 86, 3) := by decide +kernel
theorem dX8_isTextRefused_47 : decode cX8_isTextRefused 47 = .ok (.iconst 1, 1) := by decide +kernel
theorem dX8_isTextRefused_48 : decode cX8_isTextRefused 48 = .ok (.ireturn, 1) := by decide +kernel
theorem dX8_isTextRefused_49 : decode cX8_isTextRefused 49 = .ok (.iconst 0, 1) := by decide +kernel
theorem dX8_isTextRefused_50 : decode cX8_isTextRefused 50 = .ok (.ireturn, 1) := by decide +kernel
theorem dX9_init_0 : decode cX9_init 0 = .ok (.aload_n 0, 1) := by decide +kernel
theorem dX9_init_1 : decode cX9_init 1 = .ok (.invokespecial 3, 3) := by decide +kernel
theorem dX9_init_4 : decode cX9_init 4 = .ok (.aload_n 0, 1) := by decide +kernel
theorem dX9_init_5 : decode cX9_init 5 = .ok (.iconst 3, 1) := by decide +kernel
theorem dX9_init_6 : decode cX9_init 6 = .ok (.newarray .int, 2) := by decide +kernel
theorem dX9_init_8 : decode cX9_init 8 = .ok (.putfield 11, 3) := by decide +kernel
theorem dX9_init_11 : decode cX9_init 11 = .ok (.aload_n 0, 1) := by decide +kernel
theorem dX9_init_12 : decode cX9_init 12 = .ok (.iconst 3, 1) := by decide +kernel
theorem dX9_init_13 : decode cX9_init 13 = .ok (.newarray .int, 2) := by decide +kernel
theorem dX9_init_15 : decode cX9_init 15 = .ok (.putfield 15, 3) := by decide +kernel
theorem dX9_init_18 : decode cX9_init 18 = .ok (.aload_n 0, 1) := by decide +kernel
theorem dX9_init_19 : decode cX9_init 19 = .ok (.iconst 0, 1) := by decide +kernel
theorem dX9_init_20 : decode cX9_init 20 = .ok (.putfield 18, 3) := by decide +kernel
theorem dX9_init_23 : decode cX9_init 23 = .ok (.return_, 1) := by decide +kernel
theorem dX9_write_0 : decode cX9_write 0 = .ok (.aload_n 0, 1) := by decide +kernel
theorem dX9_write_1 : decode cX9_write 1 = .ok (.getfield 11, 3) := by decide +kernel
theorem dX9_write_4 : decode cX9_write 4 = .ok (.iconst 0, 1) := by decide +kernel
theorem dX9_write_5 : decode cX9_write 5 = .ok (.iload_n 1, 1) := by decide +kernel
theorem dX9_write_6 : decode cX9_write 6 = .ok (.iastore, 1) := by decide +kernel
theorem dX9_write_7 : decode cX9_write 7 = .ok (.aload_n 0, 1) := by decide +kernel
theorem dX9_write_8 : decode cX9_write 8 = .ok (.getfield 15, 3) := by decide +kernel
theorem dX9_write_11 : decode cX9_write 11 = .ok (.iconst 0, 1) := by decide +kernel
theorem dX9_write_12 : decode cX9_write 12 = .ok (.iload_n 2, 1) := by decide +kernel
theorem dX9_write_13 : decode cX9_write 13 = .ok (.iastore, 1) := by decide +kernel
theorem dX9_write_14 : decode cX9_write 14 = .ok (.aload_n 0, 1) := by decide +kernel
theorem dX9_write_15 : decode cX9_write 15 = .ok (.getfield 11, 3) := by decide +kernel
theorem dX9_write_18 : decode cX9_write 18 = .ok (.iconst 1, 1) := by decide +kernel
theorem dX9_write_19 : decode cX9_write 19 = .ok (.iload_n 3, 1) := by decide +kernel
theorem dX9_write_20 : decode cX9_write 20 = .ok (.iastore, 1) := by decide +kernel
theorem dX9_write_21 : decode cX9_write 21 = .ok (.aload_n 0, 1) := by decide +kernel
theorem dX9_write_22 : decode cX9_write 22 = .ok (.getfield 15, 3) := by decide +kernel
theorem dX9_write_25 : decode cX9_write 25 = .ok (.iconst 1, 1) := by decide +kernel
theorem dX9_write_26 : decode cX9_write 26 = .ok (.iload 4, 2) := by decide +kernel
theorem dX9_write_28 : decode cX9_write 28 = .ok (.iastore, 1) := by decide +kernel
theorem dX9_write_29 : decode cX9_write 29 = .ok (.aload_n 0, 1) := by decide +kernel
theorem dX9_write_30 : decode cX9_write 30 = .ok (.iconst 2, 1) := by decide +kernel
theorem dX9_write_31 : decode cX9_write 31 = .ok (.putfield 18, 3) := by decide +kernel
theorem dX9_write_34 : decode cX9_write 34 = .ok (.return_, 1) := by decide +kernel
theorem dX9_levels_0 : decode cX9_levels 0 = .ok (.aload_n 0, 1) := by decide +kernel
theorem dX9_levels_1 : decode cX9_levels 1 = .ok (.getfield 18, 3) := by decide +kernel
theorem dX9_levels_4 : decode cX9_levels 4 = .ok (.ireturn, 1) := by decide +kernel
theorem dX10_init_0 : decode cX10_init 0 = .ok (.aload_n 0, 1) := by decide +kernel
theorem dX10_init_1 : decode cX10_init 1 = .ok (.invokespecial 3, 3) := by decide +kernel
theorem dX10_init_4 : decode cX10_init 4 = .ok (.aload_n 0, 1) := by decide +kernel
theorem dX10_init_5 : decode cX10_init 5 = .ok (.bipush 8, 2) := by decide +kernel
theorem dX10_init_7 : decode cX10_init 7 = .ok (.newarray .int, 2) := by decide +kernel
theorem dX10_init_9 : decode cX10_init 9 = .ok (.putfield 9, 3) := by decide +kernel
theorem dX10_init_12 : decode cX10_init 12 = .ok (.aload_n 0, 1) := by decide +kernel
theorem dX10_init_13 : decode cX10_init 13 = .ok (.bipush 8, 2) := by decide +kernel
theorem dX10_init_15 : decode cX10_init 15 = .ok (.newarray .int, 2) := by decide +kernel
theorem dX10_init_17 : decode cX10_init 17 = .ok (.putfield 15, 3) := by decide +kernel
theorem dX10_init_20 : decode cX10_init 20 = .ok (.aload_n 0, 1) := by decide +kernel
theorem dX10_init_21 : decode cX10_init 21 = .ok (.bipush 8, 2) := by decide +kernel
theorem dX10_init_23 : decode cX10_init 23 = .ok (.newarray .int, 2) := by decide +kernel
theorem dX10_init_25 : decode cX10_init 25 = .ok (.putfield 18, 3) := by decide +kernel
theorem dX10_init_28 : decode cX10_init 28 = .ok (.aload_n 0, 1) := by decide +kernel
theorem dX10_init_29 : decode cX10_init 29 = .ok (.bipush 8, 2) := by decide +kernel
theorem dX10_init_31 : decode cX10_init 31 = .ok (.newarray .int, 2) := by decide +kernel
theorem dX10_init_33 : decode cX10_init 33 = .ok (.putfield 21, 3) := by decide +kernel
theorem dX10_init_36 : decode cX10_init 36 = .ok (.aload_n 0, 1) := by decide +kernel
theorem dX10_init_37 : decode cX10_init 37 = .ok (.iconst 0, 1) := by decide +kernel
theorem dX10_init_38 : decode cX10_init 38 = .ok (.putfield 24, 3) := by decide +kernel
theorem dX10_init_41 : decode cX10_init 41 = .ok (.return_, 1) := by decide +kernel
theorem dX10_copyFrom_0 : decode cX10_copyFrom 0 = .ok (.aload_n 1, 1) := by decide +kernel
theorem dX10_copyFrom_1 : decode cX10_copyFrom 1 = .ok (.getfield 9, 3) := by decide +kernel
theorem dX10_copyFrom_4 : decode cX10_copyFrom 4 = .ok (.iconst 0, 1) := by decide +kernel
theorem dX10_copyFrom_5 : decode cX10_copyFrom 5 = .ok (.aload_n 0, 1) := by decide +kernel
theorem dX10_copyFrom_6 : decode cX10_copyFrom 6 = .ok (.getfield 9, 3) := by decide +kernel
theorem dX10_copyFrom_9 : decode cX10_copyFrom 9 = .ok (.iconst 0, 1) := by decide +kernel
theorem dX10_copyFrom_10 : decode cX10_copyFrom 10 = .ok (.bipush 8, 2) := by decide +kernel
theorem dX10_copyFrom_12 : decode cX10_copyFrom 12 = .ok (.invokestatic 28, 3) := by decide +kernel
theorem dX10_copyFrom_15 : decode cX10_copyFrom 15 = .ok (.aload_n 1, 1) := by decide +kernel
theorem dX10_copyFrom_16 : decode cX10_copyFrom 16 = .ok (.getfield 15, 3) := by decide +kernel
theorem dX10_copyFrom_19 : decode cX10_copyFrom 19 = .ok (.iconst 0, 1) := by decide +kernel
theorem dX10_copyFrom_20 : decode cX10_copyFrom 20 = .ok (.aload_n 0, 1) := by decide +kernel
theorem dX10_copyFrom_21 : decode cX10_copyFrom 21 = .ok (.getfield 15, 3) := by decide +kernel
theorem dX10_copyFrom_24 : decode cX10_copyFrom 24 = .ok (.iconst 0, 1) := by decide +kernel
theorem dX10_copyFrom_25 : decode cX10_copyFrom 25 = .ok (.bipush 8, 2) := by decide +kernel
theorem dX10_copyFrom_27 : decode cX10_copyFrom 27 = .ok (.invokestatic 28, 3) := by decide +kernel
theorem dX10_copyFrom_30 : decode cX10_copyFrom 30 = .ok (.aload_n 1, 1) := by decide +kernel
theorem dX10_copyFrom_31 : decode cX10_copyFrom 31 = .ok (.getfield 18, 3) := by decide +kernel
theorem dX10_copyFrom_34 : decode cX10_copyFrom 34 = .ok (.iconst 0, 1) := by decide +kernel
theorem dX10_copyFrom_35 : decode cX10_copyFrom 35 = .ok (.aload_n 0, 1) := by decide +kernel
theorem dX10_copyFrom_36 : decode cX10_copyFrom 36 = .ok (.getfield 18, 3) := by decide +kernel
theorem dX10_copyFrom_39 : decode cX10_copyFrom 39 = .ok (.iconst 0, 1) := by decide +kernel
theorem dX10_copyFrom_40 : decode cX10_copyFrom 40 = .ok (.bipush 8, 2) := by decide +kernel
theorem dX10_copyFrom_42 : decode cX10_copyFrom 42 = .ok (.invokestatic 28, 3) := by decide +kernel
theorem dX10_copyFrom_45 : decode cX10_copyFrom 45 = .ok (.aload_n 1, 1) := by decide +kernel
theorem dX10_copyFrom_46 : decode cX10_copyFrom 46 = .ok (.getfield 21, 3) := by decide +kernel
theorem dX10_copyFrom_49 : decode cX10_copyFrom 49 = .ok (.iconst 0, 1) := by decide +kernel
theorem dX10_copyFrom_50 : decode cX10_copyFrom 50 = .ok (.aload_n 0, 1) := by decide +kernel
theorem dX10_copyFrom_51 : decode cX10_copyFrom 51 = .ok (.getfield 21, 3) := by decide +kernel
theorem dX10_copyFrom_54 : decode cX10_copyFrom 54 = .ok (.iconst 0, 1) := by decide +kernel
theorem dX10_copyFrom_55 : decode cX10_copyFrom 55 = .ok (.bipush 8, 2) := by decide +kernel
theorem dX10_copyFrom_57 : decode cX10_copyFrom 57 = .ok (.invokestatic 28, 3) := by decide +kernel
theorem dX10_copyFrom_60 : decode cX10_copyFrom 60 = .ok (.aload_n 0, 1) := by decide +kernel
theorem dX10_copyFrom_61 : decode cX10_copyFrom 61 = .ok (.aload_n 1, 1) := by decide +kernel
theorem dX10_copyFrom_62 : decode cX10_copyFrom 62 = .ok (.getfield 24, 3) := by decide +kernel
theorem dX10_copyFrom_65 : decode cX10_copyFrom 65 = .ok (.putfield 24, 3) := by decide +kernel
theorem dX10_copyFrom_68 : decode cX10_copyFrom 68 = .ok (.return_, 1) := by decide +kernel
theorem dX10_isCondition_0 : decode cX10_isCondition 0 = .ok (.iload_n 0, 1) := by decide +kernel
theorem dX10_isCondition_1 : decode cX10_isCondition 1 = .ok (.ifCond .lt 12, 3) := by decide +kernel
theorem dX10_isCondition_4 : decode cX10_isCondition 4 = .ok (.iload_n 0, 1) := by decide +kernel
theorem dX10_isCondition_5 : decode cX10_isCondition 5 = .ok (.iconst 3, 1) := by decide +kernel
theorem dX10_isCondition_6 : decode cX10_isCondition 6 = .ok (.if_icmp .gt 7, 3) := by decide +kernel
theorem dX10_isCondition_9 : decode cX10_isCondition 9 = .ok (.iconst 1, 1) := by decide +kernel
theorem dX10_isCondition_10 : decode cX10_isCondition 10 = .ok (.goto 4, 3) := by decide +kernel
theorem dX10_isCondition_13 : decode cX10_isCondition 13 = .ok (.iconst 0, 1) := by decide +kernel
theorem dX10_isCondition_14 : decode cX10_isCondition 14 = .ok (.ireturn, 1) := by decide +kernel
theorem dX10_count_0 : decode cX10_count 0 = .ok (.aload_n 0, 1) := by decide +kernel
theorem dX10_count_1 : decode cX10_count 1 = .ok (.getfield 24, 3) := by decide +kernel
theorem dX10_count_4 : decode cX10_count 4 = .ok (.ireturn, 1) := by decide +kernel
theorem dX10_isFull_0 : decode cX10_isFull 0 = .ok (.aload_n 0, 1) := by decide +kernel
theorem dX10_isFull_1 : decode cX10_isFull 1 = .ok (.getfield 24, 3) := by decide +kernel
theorem dX10_isFull_4 : decode cX10_isFull 4 = .ok (.bipush 8, 2) := by decide +kernel
theorem dX10_isFull_6 : decode cX10_isFull 6 = .ok (.if_icmp .lt 7, 3) := by decide +kernel
theorem dX10_isFull_9 : decode cX10_isFull 9 = .ok (.iconst 1, 1) := by decide +kernel
theorem dX10_isFull_10 : decode cX10_isFull 10 = .ok (.goto 4, 3) := by decide +kernel
theorem dX10_isFull_13 : decode cX10_isFull 13 = .ok (.iconst 0, 1) := by decide +kernel
theorem dX10_isFull_14 : decode cX10_isFull 14 = .ok (.ireturn, 1) := by decide +kernel
theorem dX10_hasRule_0 : decode cX10_hasRule 0 = .ok (.iload_n 1, 1) := by decide +kernel
theorem dX10_hasRule_1 : decode cX10_hasRule 1 = .ok (.ifCond .lt 15, 3) := by decide +kernel
theorem dX10_hasRule_4 : decode cX10_hasRule 4 = .ok (.iload_n 1, 1) := by decide +kernel
theorem dX10_hasRule_5 : decode cX10_hasRule 5 = .ok (.aload_n 0, 1) := by decide +kernel
theorem dX10_hasRule_6 : decode cX10_hasRule 6 = .ok (.getfield 24, 3) := by decide +kernel
theorem dX10_hasRule_9 : decode cX10_hasRule 9 = .ok (.if_icmp .ge 7, 3) := by decide +kernel
theorem dX10_hasRule_12 : decode cX10_hasRule 12 = .ok (.iconst 1, 1) := by decide +kernel
theorem dX10_hasRule_13 : decode cX10_hasRule 13 = .ok (.goto 4, 3) := by decide +kernel
theorem dX10_hasRule_16 : decode cX10_hasRule 16 = .ok (.iconst 0, 1) := by decide +kernel
theorem dX10_hasRule_17 : decode cX10_hasRule 17 = .ok (.ireturn, 1) := by decide +kernel
set_option maxRecDepth 20000 in
theorem ggX10_append_X10_isFull : GoodIn wsX10_append wsX10_isFull := goodIn_r _ [10, 2, 11, 12, 13, 14, 15] (by decide +kernel) (by decide +kernel)
set_option maxRecDepth 20000 in
theorem gX10_append_X10_isFull : GoodIn wsX10_append (wsV RX10 38 RX10 yX10_isFull wsX10_isFull) := goodIn_app (goodIn_of _ (by decide +kernel)) ggX10_append_X10_isFull
theorem dX10_append_0 : decode cX10_append 0 = .ok (.aload_n 0, 1) := by decide +kernel
theorem dX10_append_1 : decode cX10_append 1 = .ok (.invokevirtual 38, 3) := by decide +kernel
theorem dX10_append_4 : decode cX10_append 4 = .ok (.ifCond .ne 54, 3) := by decide +kernel
theorem dX10_append_7 : decode cX10_append 7 = .ok (.aload_n 0, 1) := by decide +kernel
theorem dX10_append_8 : decode cX10_append 8 = .ok (.getfield 9, 3) := by decide +kernel
theorem dX10_append_11 : decode cX10_append 11 = .ok (.aload_n 0, 1) := by decide +kernel
theorem dX10_append_12 : decode cX10_append 12 = .ok (.getfield 24, 3) := by decide +kernel
theorem dX10_append_15 : decode cX10_append 15 = .ok (.iload_n 1, 1) := by decide +kernel
theorem dX10_append_16 : decode cX10_append 16 = .ok (.iastore, 1) := by decide +kernel
theorem dX10_append_17 : decode cX10_append 17 = .ok (.aload_n 0, 1) := by decide +kernel
theorem dX10_append_18 : decode cX10_append 18 = .ok (.getfield 15, 3) := by decide +kernel
theorem dX10_append_21 : decode cX10_append 21 = .ok (.aload_n 0, 1) := by decide +kernel
theorem dX10_append_22 : decode cX10_append 22 = .ok (.getfield 24, 3) := by decide +kernel
theorem dX10_append_25 : decode cX10_append 25 = .ok (.iload_n 2, 1) := by decide +kernel
theorem dX10_append_26 : decode cX10_append 26 = .ok (.iastore, 1) := by decide +kernel
theorem dX10_append_27 : decode cX10_append 27 = .ok (.aload_n 0, 1) := by decide +kernel
theorem dX10_append_28 : decode cX10_append 28 = .ok (.getfield 18, 3) := by decide +kernel
theorem dX10_append_31 : decode cX10_append 31 = .ok (.aload_n 0, 1) := by decide +kernel
theorem dX10_append_32 : decode cX10_append 32 = .ok (.getfield 24, 3) := by decide +kernel
theorem dX10_append_35 : decode cX10_append 35 = .ok (.iload_n 3, 1) := by decide +kernel
theorem dX10_append_36 : decode cX10_append 36 = .ok (.iastore, 1) := by decide +kernel
theorem dX10_append_37 : decode cX10_append 37 = .ok (.aload_n 0, 1) := by decide +kernel
theorem dX10_append_38 : decode cX10_append 38 = .ok (.getfield 21, 3) := by decide +kernel
theorem dX10_append_41 : decode cX10_append 41 = .ok (.aload_n 0, 1) := by decide +kernel
theorem dX10_append_42 : decode cX10_append 42 = .ok (.getfield 24, 3) := by decide +kernel
theorem dX10_append_45 : decode cX10_append 45 = .ok (.iload 4, 2) := by decide +kernel
theorem dX10_append_47 : decode cX10_append 47 = .ok (.iastore, 1) := by decide +kernel
theorem dX10_append_48 : decode cX10_append 48 = .ok (.aload_n 0, 1) := by decide +kernel
theorem dX10_append_49 : decode cX10_append 49 = .ok (.dup, 1) := by decide +kernel
theorem dX10_append_50 : decode cX10_append 50 = .ok (.getfield 24, 3) := by decide +kernel
theorem dX10_append_53 : decode cX10_append 53 = .ok (.iconst 1, 1) := by decide +kernel
theorem dX10_append_54 : decode cX10_append 54 = .ok (.iadd, 1) := by decide +kernel
theorem dX10_append_55 : decode cX10_append 55 = .ok (.putfield 24, 3) := by decide +kernel
theorem dX10_append_58 : decode cX10_append 58 = .ok (.return_, 1) := by decide +kernel
set_option maxRecDepth 20000 in
theorem ggX11_init_X7_init : GoodIn wsX11_init wsX7_init := goodIn_r _ [34, 35, 2, 3, 36, 37, 38, 39, 40, 125, 126, 127, 128] (by decide +kernel) (by decide +kernel)
set_option maxRecDepth 20000 in
theorem gX11_init_X7_init : GoodIn wsX11_init (wsX7_init) := ggX11_init_X7_init
set_option maxRecDepth 20000 in
theorem ggX11_init_X3_init : GoodIn wsX11_init wsX3_init := goodIn_ca (goodIn_r _ [43, 44, 2, 3, 45, 46, 47, 48, 49, 50, 51, 52, 53, 54, 55, 56, 57, 58, 59, 60, 61, 62, 36, 63, 64, 65, 66, 67, 68, 69, 70, 71, 72, 73, 74, 75, 76, 77, 78, 29, 79, 80, 81, 82, 83, 84, 85, 86, 87, 88, 89, 90, 157, 158, 159, 160, 138, 139, 140, 161, 162, 163, 164, 165, 166, 167, 168, 169, 170] (by decide +kernel) (by decide +kernel)) (goodIn_sub (fun _ h => List.mem_cons_of_mem _ (List.mem_append_right _ h)) (by decide +kernel))
set_option maxRecDepth 20000 in
theorem gX11_init_X3_init : GoodIn wsX11_init (wsX3_init) := ggX11_init_X3_init
set_option maxRecDepth 20000 in
theorem ggX11_init_X6_init : GoodIn wsX11_init wsX6_init := goodIn_ca (goodIn_r _ [93, 94, 2, 3, 95, 96, 97, 98, 9, 10, 99, 42, 43, 44, 45, 46, 47, 48, 49, 50, 51, 52, 53, 54, 55, 56, 57, 58, 59, 60, 61, 62, 36, 63, 64, 65, 66, 67, 68, 69, 70, 71, 72, 73, 74, 75, 76, 77, 78, 29, 79, 80, 81, 82, 83, 84, 85, 86, 87, 88, 89, 90, 141, 142, 143, 138, 139, 140, 157, 158, 159, 160, 161, 162, 163, 164, 165, 166, 167, 168, 169, 170] (by decide +kernel) (by decide +kernel)) (goodIn_sub (fun _ h => List.mem_cons_of_mem _ (List.mem_append_right _ h)) (by decide +kernel))
set_option maxRecDepth 20000 in
theorem gX11_init_X6_init : GoodIn wsX11_init (wsX6_init) := ggX11_init_X6_init
set_option maxRecDepth 20000 in
theorem ggX11_init_X9_init : GoodIn wsX11_init wsX9_init := goodIn_r _ [102, 103, 2, 3, 61, 104, 105, 106, 144, 145, 146] (by decide +kernel) (by decide +kernel)
set_option maxRecDepth 20000 in
theorem gX11_init_X9_init : GoodIn wsX11_init (wsX9_init) := ggX11_init_X9_init
set_option maxRecDepth 20000 in
theorem ggX11_init_X1_init : GoodIn wsX11_init wsX1_init := goodIn_r _ [109, 110, 2, 3, 61, 111, 112, 113, 114, 115, 116, 117, 147, 148, 149, 150, 151, 152, 153] (by decide +kernel) (by decide +kernel)
set_option maxRecDepth 20000 in
theorem gX11_init_X1_init : GoodIn wsX11_init (wsX1_init) := ggX11_init_X1_init
set_option maxRecDepth 20000 in
theorem ggX11_init_X2_init : GoodIn wsX11_init wsX2_init := goodIn_r _ [120, 121, 2, 3, 29, 122, 61, 123, 124, 154, 155, 156] (by decide +kernel) (by decide +kernel)
set_option maxRecDepth 20000 in
theorem gX11_init_X2_init : GoodIn wsX11_init (wsX2_init) := ggX11_init_X2_init
theorem dX11_init_0 : decode cX11_init 0 = .ok (.aload_n 0, 1) := by decide +kernel
theorem dX11_init_1 : decode cX11_init 1 = .ok (.invokespecial 1, 3) := by decide +kernel
theorem dX11_init_4 : decode cX11_init 4 = .ok (.aload_n 0, 1) := by decide +kernel
theorem dX11_init_5 : decode cX11_init 5 = .ok (.new 7, 3) := by decide +kernel
theorem dX11_init_8 : decode cX11_init 8 = .ok (.dup, 1) := by decide +kernel
theorem dX11_init_9 : decode cX11_init 9 = .ok (.invokespecial 9, 3) := by decide +kernel
theorem dX11_init_12 : decode cX11_init 12 = .ok (.putfield 10, 3) := by decide +kernel
theorem dX11_init_15 : decode cX11_init 15 = .ok (.aload_n 0, 1) := by decide +kernel
theorem dX11_init_16 : decode cX11_init 16 = .ok (.new 16, 3) := by decide +kernel
theorem dX11_init_19 : decode cX11_init 19 = .ok (.dup, 1) := by decide +kernel
theorem dX11_init_20 : decode cX11_init 20 = .ok (.invokespecial 18, 3) := by decide +kernel
theorem dX11_init_23 : decode cX11_init 23 = .ok (.putfield 19, 3) := by decide +kernel
theorem dX11_init_26 : decode cX11_init 26 = .ok (.aload_n 0, 1) := by decide +kernel
theorem dX11_init_27 : decode cX11_init 27 = .ok (.new 16, 3) := by decide +kernel
theorem dX11_init_30 : decode cX11_init 30 = .ok (.dup, 1) := by decide +kernel
theorem dX11_init_31 : decode cX11_init 31 = .ok (.invokespecial 18, 3) := by decide +kernel
theorem dX11_init_34 : decode cX11_init 34 = .ok (.putfield 23, 3) := by decide +kernel
theorem dX11_init_37 : decode cX11_init 37 = .ok (.aload_n 0, 1) := by decide +kernel
theorem dX11_init_38 : decode cX11_init 38 = .ok (.new 26, 3) := by decide +kernel
theorem dX11_init_41 : decode cX11_init 41 = .ok (.dup, 1) := by decide +kernel
theorem dX11_init_42 : decode cX11_init 42 = .ok (.invokespecial 28, 3) := by decide +kernel
theorem dX11_init_45 : decode cX11_init 45 = .ok (.putfield 29, 3) := by decide +kernel
theorem dX11_init_48 : decode cX11_init 48 = .ok (.aload_n 0, 1) := by decide +kernel
theorem dX11_init_49 : decode cX11_init 49 = .ok (.new 33, 3) := by decide +kernel
theorem dX11_init_52 : decode cX11_init 52 = .ok (.dup, 1) := by decide +kernel
theorem dX11_init_53 : decode cX11_init 53 = .ok (.invokespecial 35, 3) := by decide +kernel
theorem dX11_init_56 : decode cX11_init 56 = .ok (.putfield 36, 3) := by decide +kernel
theorem dX11_init_59 : decode cX11_init 59 = .ok (.aload_n 0, 1) := by decide +kernel
theorem dX11_init_60 : decode cX11_init 60 = .ok (.new 40, 3) := by decide +kernel
theorem dX11_init_63 : decode cX11_init 63 = .ok (.dup, 1) := by decide +kernel
theorem dX11_init_64 : decode cX11_init 64 = .ok (.invokespecial 42, 3) := by decide +kernel
theorem dX11_init_67 : decode cX11_init 67 = .ok (.putfield 43, 3) := by decide +kernel
theorem dX11_init_70 : decode cX11_init 70 = .ok (.aload_n 0, 1) := by decide +kernel
theorem dX11_init_71 : decode cX11_init 71 = .ok (.new 47, 3) := by decide +kernel
theorem dX11_init_74 : decode cX11_init 74 = .ok (.dup, 1) := by decide +kernel
theorem dX11_init_75 : decode cX11_init 75 = .ok (.invokespecial 49, 3) := by decide +kernel
theorem dX11_init_78 : decode cX11_init 78 = .ok (.putfield 50, 3) := by decide +kernel
theorem dX11_init_81 : decode cX11_init 81 = .ok (.aload_n 0, 1) := by decide +kernel
theorem dX11_init_82 : decode cX11_init 82 = .ok (.bipush 20, 2) := by decide +kernel
theorem dX11_init_84 : decode cX11_init 84 = .ok (.newarray .long, 2) := by decide +kernel
theorem dX11_init_86 : decode cX11_init 86 = .ok (.putfield 54, 3) := by decide +kernel
theorem dX11_init_89 : decode cX11_init 89 = .ok (.aload_n 0, 1) := by decide +kernel
theorem dX11_init_90 : decode cX11_init 90 = .ok (.iconst 0, 1) := by decide +kernel
theorem dX11_init_91 : decode cX11_init 91 = .ok (.putfield 58, 3) := by decide +kernel
theorem dX11_init_94 : decode cX11_init 94 = .ok (.return_, 1) := by decide +kernel
set_option maxRecDepth 20000 in
theorem ggX11_feed_X7_isFull : GoodIn wsX11_feed wsX7_isFull := goodIn_r _ [8, 9, 29, 30, 31, 32] (by decide +kernel) (by decide +kernel)
set_option maxRecDepth 20000 in
theorem gX11_feed_X7_isFull : GoodIn wsX11_feed (wsV RX11 62 RX7 yX7_isFull wsX7_isFull) := goodIn_app (goodIn_of _ (by decide +kernel)) ggX11_feed_X7_isFull
set_option maxRecDepth 20000 in
theorem ggX11_feed_X7_put : GoodIn wsX11_feed wsX7_put := goodIn_ca (goodIn_r _ [13, 14, 9, 15, 5, 6, 7, 8, 29, 30, 31, 32] (by decide +kernel) (by decide +kernel)) (goodIn_sub (fun _ h => List.mem_cons_of_mem _ (List.mem_append_right _ h)) (by decide +kernel))
set_option maxRecDepth 20000 in
theorem gX11_feed_X7_put : GoodIn wsX11_feed (wsV RX11 73 RX7 yX7_put wsX7_put) := goodIn_app (goodIn_of _ (by decide +kernel)) ggX11_feed_X7_put
set_option maxRecDepth 20000 in
theorem ggX11_feed_X7_count : GoodIn wsX11_feed wsX7_count := goodIn_r _ [19, 9, 29, 30, 31, 32] (by decide +kernel) (by decide +kernel)
set_option maxRecDepth 20000 in
theorem gX11_feed_X7_count : GoodIn wsX11_feed (wsV RX11 77 RX7 yX7_count wsX7_count) := goodIn_app (goodIn_of _ (by decide +kernel)) ggX11_feed_X7_count
theorem dX11_feed_0 : decode cX11_feed 0 = .ok (.aload_n 0, 1) := by decide +kernel
theorem dX11_feed_1 : decode cX11_feed 1 = .ok (.getfield 10, 3) := by decide +kernel
theorem dX11_feed_4 : decode cX11_feed 4 = .ok (.invokevirtual 62, 3) := by decide +kernel
theorem dX11_feed_7 : decode cX11_feed 7 = .ok (.ifCond .eq 13, 3) := by decide +kernel
theorem dX11_feed_10 : decode cX11_feed 10 = .ok (.new 66, 3) := by decide +kernel
theorem dX11_feed_13 : decode cX11_feed 13 = .ok (.dup, 1) := by decide +kernel
theorem dX11_feed_14 : decode cX11_feed 14 = .ok (.ldc 68, 2) := by decide +kernel
theorem dX11_feed_16 : decode cX11_feed 16 = .ok (.invokespecial 70, 3) := by decide +kernel
theorem dX11_feed_19 : decode cX11_feed 19 = .ok (.athrow, 1) := by decide +kernel
theorem dX11_feed_20 : decode cX11_feed 20 = .ok (.aload_n 0, 1) := by decide +kernel
theorem dX11_feed_21 : decode cX11_feed 21 = .ok (.getfield 10, 3) := by decide +kernel
theorem dX11_feed_24 : decode cX11_feed 24 = .ok (.iload_n 1, 1) := by decide +kernel
theorem dX11_feed_25 : decode cX11_feed 25 = .ok (.invokevirtual 73, 3) := by decide +kernel
theorem dX11_feed_28 : decode cX11_feed 28 = .ok (.aload_n 0, 1) := by decide +kernel
theorem dX11_feed_29 : decode cX11_feed 29 = .ok (.getfield 10, 3) := by decide +kernel
theorem dX11_feed_32 : decode cX11_feed 32 = .ok (.invokevirtual 77, 3) := by decide +kernel
theorem dX11_feed_35 : decode cX11_feed 35 = .ok (.ireturn, 1) := by decide +kernel
set_option maxRecDepth 20000 in
theorem ggX11_addLetter_X3_alphabet : GoodIn wsX11_addLetter wsX3_alphabet := goodIn_r _ [12, 13, 119, 120, 121] (by decide +kernel) (by decide +kernel)
set_option maxRecDepth 20000 in
theorem gX11_addLetter_X3_alphabet : GoodIn wsX11_addLetter (wsV RX11 81 RX3 yX3_alphabet wsX3_alphabet) := goodIn_app (goodIn_of _ (by decide +kernel)) ggX11_addLetter_X3_alphabet
set_option maxRecDepth 20000 in
theorem ggX11_addLetter_X11_isPlain : GoodIn wsX11_addLetter wsX11_isPlain := goodIn_r _ [17] (by decide +kernel) (by decide +kernel)
set_option maxRecDepth 20000 in
theorem gX11_addLetter_X11_isPlain : GoodIn wsX11_addLetter (va_wsS RX11 85 yX11_isPlain wsX11_isPlain) := goodIn_app (goodIn_of _ (by decide +kernel)) ggX11_addLetter_X11_isPlain
set_option maxRecDepth 20000 in
theorem ggX11_addLetter_X0_letterOfSigns : GoodIn wsX11_addLetter wsX0_letterOfSigns := goodIn_ca (goodIn_r _ [22, 23, 24, 25, 122, 123, 124, 125] (by decide +kernel) (by decide +kernel)) (goodIn_sub (fun _ h => List.mem_cons_of_mem _ (List.mem_append_right _ h)) (by decide +kernel))
set_option maxRecDepth 20000 in
theorem gX11_addLetter_X0_letterOfSigns : GoodIn wsX11_addLetter (wsV RX11 89 RX0 yX0_letterOfSigns wsX0_letterOfSigns) := goodIn_app (goodIn_of _ (by decide +kernel)) ggX11_addLetter_X0_letterOfSigns
set_option maxRecDepth 20000 in
theorem ggX11_addLetter_X0_size : GoodIn wsX11_addLetter wsX0_size := goodIn_r _ [29, 23, 122, 123, 124, 125] (by decide +kernel) (by decide +kernel)
set_option maxRecDepth 20000 in
theorem gX11_addLetter_X0_size : GoodIn wsX11_addLetter (wsV RX11 100 RX0 yX0_size wsX0_size) := goodIn_app (goodIn_of _ (by decide +kernel)) ggX11_addLetter_X0_size
set_option maxRecDepth 20000 in
theorem ggX11_addLetter_X0_isFull : GoodIn wsX11_addLetter wsX0_isFull := goodIn_r _ [33, 23, 122, 123, 124, 125] (by decide +kernel) (by decide +kernel)
set_option maxRecDepth 20000 in
theorem gX11_addLetter_X0_isFull : GoodIn wsX11_addLetter (wsV RX11 108 RX0 yX0_isFull wsX0_isFull) := goodIn_app (goodIn_of _ (by decide +kernel)) ggX11_addLetter_X0_isFull
set_option maxRecDepth 20000 in
theorem ggX11_addLetter_X11_remember : GoodIn wsX11_addLetter wsX11_remember := goodIn_r _ [37, 38, 7, 39, 40, 41, 42, 43, 44, 45, 46, 47, 48, 11, 49, 13, 50, 51, 52, 53, 54, 21, 55, 56, 57, 58, 59, 60, 24, 25, 23, 61, 62, 63, 64, 65, 66, 67, 68, 69, 70, 71, 72, 73, 74, 75, 76, 77, 78, 79, 80, 81, 82, 83, 84, 85, 86, 87, 88, 89, 90, 91, 92, 93, 94, 95, 96, 110, 111, 112, 113, 114, 115, 116, 117, 118, 126, 127, 128, 119, 120, 121, 122, 123, 124, 125, 129, 130, 131, 132, 133, 134, 135, 136, 137, 138] (by decide +kernel) (by decide +kernel)
set_option maxRecDepth 20000 in
theorem gX11_addLetter_X11_remember : GoodIn wsX11_addLetter (wsV RX11 111 RX11 yX11_remember wsX11_remember) := goodIn_app (goodIn_of _ (by decide +kernel)) ggX11_addLetter_X11_remember
set_option maxRecDepth 20000 in
theorem ggX11_addLetter_X0_insert : GoodIn wsX11_addLetter wsX0_insert := goodIn_ca (goodIn_r _ [100, 56, 23, 24, 25, 101, 31, 32, 21, 33, 102, 103, 104, 105, 106, 107, 108, 109, 122, 123, 124, 125] (by decide +kernel) (by decide +kernel)) (goodIn_sub (fun _ h => List.mem_cons_of_mem _ (List.mem_append_right _ h)) (by decide +kernel))
set_option maxRecDepth 20000 in
theorem gX11_addLetter_X0_insert : GoodIn wsX11_addLetter (wsV RX11 114 RX0 yX0_insert wsX0_insert) := goodIn_app (goodIn_of _ (by decide +kernel)) ggX11_addLetter_X0_insert
theorem dX11_addLetter_0 : decode cX11_addLetter 0 = .ok (.aload_n 0, 1) := by decide +kernel
theorem dX11_addLetter_1 : decode cX11_addLetter 1 = .ok (.getfield 19, 3) := by decide +kernel
theorem dX11_addLetter_4 : decode cX11_addLetter 4 = .ok (.invokevirtual 81, 3) := by decide +kernel
theorem dX11_addLetter_7 : decode cX11_addLetter 7 = .ok (.astore 4, 2) := by decide +kernel
theorem dX11_addLetter_9 : decode cX11_addLetter 9 = .ok (.iload_n 1, 1) := by decide +kernel
theorem dX11_addLetter_10 : decode cX11_addLetter 10 = .ok (.invokestatic 85, 3) := by decide +kernel
theorem dX11_addLetter_13 : decode cX11_addLetter 13 = .ok (.ifCond .eq 21, 3) := by decide +kernel
theorem dX11_addLetter_16 : decode cX11_addLetter 16 = .ok (.iload_n 2, 1) := by decide +kernel
theorem dX11_addLetter_17 : decode cX11_addLetter 17 = .ok (.invokestatic 85, 3) := by decide +kernel
theorem dX11_addLetter_20 : decode cX11_addLetter 20 = .ok (.ifCond .eq 14, 3) := by decide +kernel
theorem dX11_addLetter_23 : decode cX11_addLetter 23 = .ok (.aload 4, 2) := by decide +kernel
theorem dX11_addLetter_25 : decode cX11_addLetter 25 = .ok (.iload_n 1, 1) := by decide +kernel
theorem dX11_addLetter_26 : decode cX11_addLetter 26 = .ok (.iload_n 2, 1) := by decide +kernel
theorem dX11_addLetter_27 : decode cX11_addLetter 27 = .ok (.invokevirtual 89, 3) := by decide +kernel
theorem dX11_addLetter_30 : decode cX11_addLetter 30 = .ok (.iconst (-1), 1) := by decide +kernel
theorem dX11_addLetter_31 : decode cX11_addLetter 31 = .ok (.if_icmp .eq 13, 3) := by decide +kernel
theorem dX11_addLetter_34 : decode cX11_addLetter 34 = .ok (.new 95, 3) := by decide +kernel
theorem dX11_addLetter_37 : decode cX11_addLetter 37 = .ok (.dup, 1) := by decide +kernel
theorem dX11_addLetter_38 : decode cX11_addLetter 38 = .ok (.ldc 97, 2) := by decide +kernel
theorem dX11_addLetter_40 : decode cX11_addLetter 40 = .ok (.invokespecial 99, 3) := by decide +kernel
theorem dX11_addLetter_43 : decode cX11_addLetter 43 = .ok (.athrow, 1) := by decide +kernel
theorem dX11_addLetter_44 : decode cX11_addLetter 44 = .ok (.iload_n 3, 1) := by decide +kernel
theorem dX11_addLetter_45 : decode cX11_addLetter 45 = .ok (.ifCond .lt 12, 3) := by decide +kernel
theorem dX11_addLetter_48 : decode cX11_addLetter 48 = .ok (.iload_n 3, 1) := by decide +kernel
theorem dX11_addLetter_49 : decode cX11_addLetter 49 = .ok (.aload 4, 2) := by decide +kernel
theorem dX11_addLetter_51 : decode cX11_addLetter 51 = .ok (.invokevirtual 100, 3) := by decide +kernel
theorem dX11_addLetter_54 : decode cX11_addLetter 54 = .ok (.if_icmp .le 13, 3) := by decide +kernel
theorem dX11_addLetter_57 : decode cX11_addLetter 57 = .ok (.new 103, 3) := by decide +kernel
theorem dX11_addLetter_60 : decode cX11_addLetter 60 = .ok (.dup, 1) := by decide +kernel
theorem dX11_addLetter_61 : decode cX11_addLetter 61 = .ok (.ldc 105, 2) := by decide +kernel
theorem dX11_addLetter_63 : decode cX11_addLetter 63 = .ok (.invokespecial 107, 3) := by decide +kernel
theorem dX11_addLetter_66 : decode cX11_addLetter 66 = .ok (.athrow, 1) := by decide +kernel
theorem dX11_addLetter_67 : decode cX11_addLetter 67 = .ok (.aload 4, 2) := by decide +kernel
theorem dX11_addLetter_69 : decode cX11_addLetter 69 = .ok (.invokevirtual 108, 3) := by decide +kernel
theorem dX11_addLetter_72 : decode cX11_addLetter 72 = .ok (.ifCond .eq 13, 3) := by decide +kernel
theorem dX11_addLetter_75 : decode cX11_addLetter 75 = .ok (.new 66, 3) := by decide +kernel
theorem dX11_addLetter_78 : decode cX11_addLetter 78 = .ok (.dup, 1) := by decide +kernel
theorem dX11_addLetter_79 : decode cX11_addLetter 79 = .ok (.ldc 109, 2) := by decide +kernel
theorem dX11_addLetter_81 : decode cX11_addLetter 81 = .ok (.invokespecial 70, 3) := by decide +kernel
theorem dX11_addLetter_84 : decode cX11_addLetter 84 = .ok (.athrow, 1) := by decide +kernel
theorem dX11_addLetter_85 : decode cX11_addLetter 85 = .ok (.aload_n 0, 1) := by decide +kernel
theorem dX11_addLetter_86 : decode cX11_addLetter 86 = .ok (.invokevirtual 111, 3) := by decide +kernel
theorem dX11_addLetter_89 : decode cX11_addLetter 89 = .ok (.aload 4, 2) := by decide +kernel
theorem dX11_addLetter_91 : decode cX11_addLetter 91 = .ok (.iload_n 1, 1) := by decide +kernel
theorem dX11_addLetter_92 : decode cX11_addLetter 92 = .ok (.iload_n 2, 1) := by decide +kernel
theorem dX11_addLetter_93 : decode cX11_addLetter 93 = .ok (.iload_n 3, 1) := by decide +kernel
theorem dX11_addLetter_94 : decode cX11_addLetter 94 = .ok (.invokevirtual 114, 3) := by decide +kernel
theorem dX11_addLetter_97 : decode cX11_addLetter 97 = .ok (.aload 4, 2) := by decide +kernel
theorem dX11_addLetter_99 : decode cX11_addLetter 99 = .ok (.invokevirtual 100, 3) := by decide +kernel
theorem dX11_addLetter_102 : decode cX11_addLetter 102 = .ok (.ireturn, 1) := by decide +kernel
set_option maxRecDepth 20000 in
theorem ggX11_moveLetter_X11_requirePlace : GoodIn wsX11_moveLetter wsX11_requirePlace := goodIn_ca (goodIn_r _ [10, 11, 12, 1, 13, 14, 15, 16, 17, 18, 19, 20, 21, 22, 23, 24, 94, 95, 96, 97, 98, 99, 100, 101, 102, 103, 104, 105, 106, 107, 108, 109] (by decide +kernel) (by decide +kernel)) (goodIn_sub (fun _ h => List.mem_cons_of_mem _ (List.mem_append_left _ (List.mem_append_right _ h))) (by decide +kernel))
set_option maxRecDepth 20000 in
theorem gX11_moveLetter_X11_requirePlace : GoodIn wsX11_moveLetter (wsV RX11 118 RX11 yX11_requirePlace wsX11_requirePlace) := goodIn_app (goodIn_of _ (by decide +kernel)) ggX11_moveLetter_X11_requirePlace
set_option maxRecDepth 20000 in
theorem ggX11_moveLetter_X11_remember : GoodIn wsX11_moveLetter wsX11_remember := goodIn_r _ [28, 29, 1, 30, 31, 32, 33, 34, 35, 36, 37, 38, 39, 16, 40, 18, 41, 42, 43, 44, 45, 22, 46, 47, 48, 49, 50, 51, 52, 53, 24, 54, 55, 56, 57, 58, 59, 60, 61, 62, 63, 64, 65, 66, 67, 68, 69, 70, 71, 72, 73, 74, 75, 76, 77, 78, 79, 80, 81, 82, 83, 84, 85, 86, 87, 4, 88, 94, 95, 96, 97, 98, 99, 100, 101, 102, 110, 111, 112, 103, 104, 105, 106, 107, 108, 109, 113, 114, 115, 116, 117, 118, 119, 120, 121, 122] (by decide +kernel) (by decide +kernel)
set_option maxRecDepth 20000 in
theorem gX11_moveLetter_X11_remember : GoodIn wsX11_moveLetter (wsV RX11 111 RX11 yX11_remember wsX11_remember) := goodIn_app (goodIn_of _ (by decide +kernel)) ggX11_moveLetter_X11_remember
set_option maxRecDepth 20000 in
theorem ggX11_moveLetter_X3_alphabet : GoodIn wsX11_moveLetter wsX3_alphabet := goodIn_r _ [17, 18, 103, 104, 105] (by decide +kernel) (by decide +kernel)
set_option maxRecDepth 20000 in
theorem gX11_moveLetter_X3_alphabet : GoodIn wsX11_moveLetter (wsV RX11 81 RX3 yX3_alphabet wsX3_alphabet) := goodIn_app (goodIn_of _ (by decide +kernel)) ggX11_moveLetter_X3_alphabet
set_option maxRecDepth 20000 in
theorem ggX11_moveLetter_X0_shift : GoodIn wsX11_moveLetter wsX0_shift := goodIn_ca (goodIn_r _ [92, 47, 93, 20, 21, 22, 23, 24, 106, 107, 108, 109] (by decide +kernel) (by decide +kernel)) (goodIn_sub (fun _ h => List.mem_cons_of_mem _ (List.mem_append_right _ h)) (by decide +kernel))
set_option maxRecDepth 20000 in
theorem gX11_moveLetter_X0_shift : GoodIn wsX11_moveLetter (wsV RX11 122 RX0 yX0_shift wsX0_shift) := goodIn_app (goodIn_of _ (by decide +kernel)) ggX11_moveLetter_X0_shift
theorem dX11_moveLetter_0 : decode cX11_moveLetter 0 = .ok (.aload_n 0, 1) := by decide +kernel
theorem dX11_moveLetter_1 : decode cX11_moveLetter 1 = .ok (.iload_n 1, 1) := by decide +kernel
theorem dX11_moveLetter_2 : decode cX11_moveLetter 2 = .ok (.invokevirtual 118, 3) := by decide +kernel
theorem dX11_moveLetter_5 : decode cX11_moveLetter 5 = .ok (.aload_n 0, 1) := by decide +kernel
theorem dX11_moveLetter_6 : decode cX11_moveLetter 6 = .ok (.iload_n 2, 1) := by decide +kernel
theorem dX11_moveLetter_7 : decode cX11_moveLetter 7 = .ok (.invokevirtual 118, 3) := by decide +kernel
theorem dX11_moveLetter_10 : decode cX11_moveLetter 10 = .ok (.aload_n 0, 1) := by decide +kernel
theorem dX11_moveLetter_11 : decode cX11_moveLetter 11 = .ok (.invokevirtual 111, 3) := by decide +kernel
theorem dX11_moveLetter_14 : decode cX11_moveLetter 14 = .ok (.aload_n 0, 1) := by decide +kernel
theorem dX11_moveLetter_15 : decode cX11_moveLetter 15 = .ok (.getfield 19, 3) := by decide +kernel
theorem dX11_moveLetter_18 : decode cX11_moveLetter 18 = .ok (.invokevirtual 81, 3) := by decide +kernel
theorem dX11_moveLetter_21 : decode cX11_moveLetter 21 = .ok (.iload_n 1, 1) := by decide +kernel
theorem dX11_moveLetter_22 : decode cX11_moveLetter 22 = .ok (.iload_n 2, 1) := by decide +kernel
theorem dX11_moveLetter_23 : decode cX11_moveLetter 23 = .ok (.invokevirtual 122, 3) := by decide +kernel
theorem dX11_moveLetter_26 : decode cX11_moveLetter 26 = .ok (.iload_n 1, 1) := by decide +kernel
theorem dX11_moveLetter_27 : decode cX11_moveLetter 27 = .ok (.iload_n 2, 1) := by decide +kernel
theorem dX11_moveLetter_28 : decode cX11_moveLetter 28 = .ok (.isub, 1) := by decide +kernel
theorem dX11_moveLetter_29 : decode cX11_moveLetter 29 = .ok (.invokestatic 126, 3) := by decide +kernel
theorem dX11_moveLetter_32 : decode cX11_moveLetter 32 = .ok (.ireturn, 1) := by decide +kernel
set_option maxRecDepth 20000 in
theorem ggX11_letter_X11_requirePlace : GoodIn wsX11_letter wsX11_requirePlace := goodIn_ca (goodIn_r _ [6, 7, 8, 1, 9, 10, 11, 12, 13, 14, 15, 16, 17, 18, 19, 20, 37, 38, 39, 40, 41, 42, 43, 44, 45, 46, 47, 48, 49, 50, 51, 52] (by decide +kernel) (by decide +kernel)) (goodIn_sub (fun _ h => List.mem_cons_of_mem _ (List.mem_append_left _ (List.mem_append_right _ h))) (by decide +kernel))
set_option maxRecDepth 20000 in
theorem gX11_letter_X11_requirePlace : GoodIn wsX11_letter (wsV RX11 118 RX11 yX11_requirePlace wsX11_requirePlace) := goodIn_app (goodIn_of _ (by decide +kernel)) ggX11_letter_X11_requirePlace
set_option maxRecDepth 20000 in
theorem ggX11_letter_X3_alphabet : GoodIn wsX11_letter wsX3_alphabet := goodIn_r _ [13, 14, 46, 47, 48] (by decide +kernel) (by decide +kernel)
set_option maxRecDepth 20000 in
theorem gX11_letter_X3_alphabet : GoodIn wsX11_letter (wsV RX11 81 RX3 yX3_alphabet wsX3_alphabet) := goodIn_app (goodIn_of _ (by decide +kernel)) ggX11_letter_X3_alphabet
set_option maxRecDepth 20000 in
theorem ggX11_letter_X0_letterAt : GoodIn wsX11_letter wsX0_letterAt := goodIn_ca (goodIn_r _ [24, 25, 26, 16, 17, 18, 19, 20, 49, 50, 51, 52] (by decide +kernel) (by decide +kernel)) (goodIn_sub (fun _ h => List.mem_cons_of_mem _ (List.mem_append_right _ h)) (by decide +kernel))
set_option maxRecDepth 20000 in
theorem gX11_letter_X0_letterAt : GoodIn wsX11_letter (wsV RX11 132 RX0 yX0_letterAt wsX0_letterAt) := goodIn_app (goodIn_of _ (by decide +kernel)) ggX11_letter_X0_letterAt
set_option maxRecDepth 20000 in
theorem ggX11_letter_X0_secondOf : GoodIn wsX11_letter wsX0_secondOf := goodIn_ca (goodIn_r _ [30, 20, 31, 49, 50, 51, 52] (by decide +kernel) (by decide +kernel)) (goodIn_sub (fun _ h => List.mem_cons_of_mem _ (List.mem_append_right _ h)) (by decide +kernel))
set_option maxRecDepth 20000 in
theorem gX11_letter_X0_secondOf : GoodIn wsX11_letter (wsV RX11 135 RX0 yX0_secondOf wsX0_secondOf) := goodIn_app (goodIn_of _ (by decide +kernel)) ggX11_letter_X0_secondOf
set_option maxRecDepth 20000 in
theorem ggX11_letter_X0_firstOf : GoodIn wsX11_letter wsX0_firstOf := goodIn_ca (goodIn_r _ [35, 20, 36, 49, 50, 51, 52] (by decide +kernel) (by decide +kernel)) (goodIn_sub (fun _ h => List.mem_cons_of_mem _ (List.mem_append_right _ h)) (by decide +kernel))
set_option maxRecDepth 20000 in
theorem gX11_letter_X0_firstOf : GoodIn wsX11_letter (wsV RX11 139 RX0 yX0_firstOf wsX0_firstOf) := goodIn_app (goodIn_of _ (by decide +kernel)) ggX11_letter_X0_firstOf
theorem dX11_letter_0 : decode cX11_letter 0 = .ok (.aload_n 0, 1) := by decide +kernel
theorem dX11_letter_1 : decode cX11_letter 1 = .ok (.iload_n 1, 1) := by decide +kernel
theorem dX11_letter_2 : decode cX11_letter 2 = .ok (.invokevirtual 118, 3) := by decide +kernel
theorem dX11_letter_5 : decode cX11_letter 5 = .ok (.aload_n 0, 1) := by decide +kernel
theorem dX11_letter_6 : decode cX11_letter 6 = .ok (.getfield 19, 3) := by decide +kernel
theorem dX11_letter_9 : decode cX11_letter 9 = .ok (.invokevirtual 81, 3) := by decide +kernel
theorem dX11_letter_12 : decode cX11_letter 12 = .ok (.astore_n 3, 1) := by decide +kernel
theorem dX11_letter_13 : decode cX11_letter 13 = .ok (.aload_n 3, 1) := by decide +kernel
theorem dX11_letter_14 : decode cX11_letter 14 = .ok (.iload_n 1, 1) := by decide +kernel
theorem dX11_letter_15 : decode cX11_letter 15 = .ok (.invokevirtual 132, 3) := by decide +kernel
theorem dX11_letter_18 : decode cX11_letter 18 = .ok (.istore 4, 2) := by decide +kernel
theorem dX11_letter_20 : decode cX11_letter 20 = .ok (.iload_n 2, 1) := by decide +kernel
theorem dX11_letter_21 : decode cX11_letter 21 = .ok (.ifCond .eq 12, 3) := by decide +kernel
theorem dX11_letter_24 : decode cX11_letter 24 = .ok (.aload_n 3, 1) := by decide +kernel
theorem dX11_letter_25 : decode cX11_letter 25 = .ok (.iload 4, 2) := by decide +kernel
theorem dX11_letter_27 : decode cX11_letter 27 = .ok (.invokevirtual 135, 3) := by decide +kernel
theorem dX11_letter_30 : decode cX11_letter 30 = .ok (.goto 9, 3) := by decide +kernel
theorem dX11_letter_33 : decode cX11_letter 33 = .ok (.aload_n 3, 1) := by decide +kernel
theorem dX11_letter_34 : decode cX11_letter 34 = .ok (.iload 4, 2) := by decide +kernel
theorem dX11_letter_36 : decode cX11_letter 36 = .ok (.invokevirtual 139, 3) := by decide +kernel
theorem dX11_letter_39 : decode cX11_letter 39 = .ok (.ireturn, 1) := by decide +kernel
set_option maxRecDepth 20000 in
theorem ggX11_add_X3_alphabet : GoodIn wsX11_add wsX3_alphabet := goodIn_r _ [11, 12, 187, 188, 189] (by decide +kernel) (by decide +kernel)
set_option maxRecDepth 20000 in
theorem gX11_add_X3_alphabet : GoodIn wsX11_add (wsV RX11 81 RX3 yX3_alphabet wsX3_alphabet) := goodIn_app (goodIn_of _ (by decide +kernel)) ggX11_add_X3_alphabet
set_option maxRecDepth 20000 in
theorem ggX11_add_X7_divideAll : GoodIn wsX11_add wsX7_divideAll := goodIn_ca (goodIn_r _ [17, 18, 19, 20, 21, 16, 22, 23, 24, 25, 26, 27, 28, 29, 30, 31, 32, 33, 34, 35, 36, 37, 38, 39, 40, 41, 42, 43, 44, 45, 46, 47, 48, 49, 50, 51, 52, 53, 54, 55, 190, 191, 192, 193, 194, 195, 196, 197] (by decide +kernel) (by decide +kernel)) (goodIn_sub (fun _ h => List.mem_cons_of_mem _ (List.mem_append_right _ h)) (by decide +kernel))
set_option maxRecDepth 20000 in
theorem gX11_add_X7_divideAll : GoodIn wsX11_add (wsV RX11 142 RX7 yX7_divideAll wsX7_divideAll) := goodIn_app (goodIn_of _ (by decide +kernel)) ggX11_add_X7_divideAll
set_option maxRecDepth 20000 in
theorem ggX11_add_X7_clear : GoodIn wsX11_add wsX7_clear := goodIn_r _ [59, 18, 190, 191, 192, 193] (by decide +kernel) (by decide +kernel)
set_option maxRecDepth 20000 in
theorem gX11_add_X7_clear : GoodIn wsX11_add (wsV RX11 146 RX7 yX7_clear wsX7_clear) := goodIn_app (goodIn_of _ (by decide +kernel)) ggX11_add_X7_clear
set_option maxRecDepth 20000 in
theorem ggX11_add_X6_prepare : GoodIn wsX11_add wsX6_prepare := goodIn_r _ [64, 65, 66, 67, 68, 69, 10, 70, 12, 71, 72, 73, 74, 75, 40, 76, 77, 78, 79, 80, 81, 43, 44, 42, 82, 83, 84, 85, 86, 87, 88, 89, 90, 91, 92, 93, 94, 95, 96, 97, 98, 99, 100, 101, 102, 103, 104, 105, 106, 107, 108, 198, 199, 200, 187, 188, 189, 194, 195, 196, 197, 201, 202, 203, 204, 205, 206, 207, 208, 209, 210] (by decide +kernel) (by decide +kernel)
set_option maxRecDepth 20000 in
theorem gX11_add_X6_prepare : GoodIn wsX11_add (wsV RX11 149 RX6 yX6_prepare wsX6_prepare) := goodIn_app (goodIn_of _ (by decide +kernel)) ggX11_add_X6_prepare
set_option maxRecDepth 20000 in
theorem ggX11_add_X3_lexicon : GoodIn wsX11_add wsX3_lexicon := goodIn_r _ [112, 71, 187, 188, 189] (by decide +kernel) (by decide +kernel)
set_option maxRecDepth 20000 in
theorem gX11_add_X3_lexicon : GoodIn wsX11_add (wsV RX11 153 RX3 yX3_lexicon wsX3_lexicon) := goodIn_app (goodIn_of _ (by decide +kernel)) ggX11_add_X3_lexicon
set_option maxRecDepth 20000 in
theorem ggX11_add_X8_isMakingRefused : GoodIn wsX11_add wsX8_isMakingRefused := goodIn_ca (goodIn_r _ [116, 88, 87, 117, 118, 119, 85, 120, 121, 122, 123, 16, 124, 24, 125, 126, 127, 128, 129, 130, 131, 132, 133, 134, 135, 136, 137, 138, 139, 140, 23, 141, 142, 143, 144, 145, 146, 147, 92, 148, 96, 94, 149, 150, 151, 152, 153, 154, 155, 156, 157, 158, 159, 160, 161, 162, 163, 164, 97, 201, 202, 190, 191, 192, 193, 211, 212, 213, 203, 204, 205] (by decide +kernel) (by decide +kernel)) (goodIn_sub (fun _ h => List.mem_cons_of_mem _ (List.mem_append_right _ h)) (by decide +kernel))
set_option maxRecDepth 20000 in
theorem gX11_add_X8_isMakingRefused : GoodIn wsX11_add (wsV RX11 157 RX8 yX8_isMakingRefused wsX8_isMakingRefused) := goodIn_app (goodIn_of _ (by decide +kernel)) ggX11_add_X8_isMakingRefused
set_option maxRecDepth 20000 in
theorem ggX11_add_X6_keep : GoodIn wsX11_add wsX6_keep := goodIn_r _ [168, 66, 169, 170, 171, 172, 173, 198, 199, 200] (by decide +kernel) (by decide +kernel)
set_option maxRecDepth 20000 in
theorem gX11_add_X6_keep : GoodIn wsX11_add (wsV RX11 168 RX6 yX6_keep wsX6_keep) := goodIn_app (goodIn_of _ (by decide +kernel)) ggX11_add_X6_keep
set_option maxRecDepth 20000 in
theorem ggX11_add_X8_count : GoodIn wsX11_add wsX8_count := goodIn_r _ [177, 87, 201, 202] (by decide +kernel) (by decide +kernel)
set_option maxRecDepth 20000 in
theorem gX11_add_X8_count : GoodIn wsX11_add (wsV RX11 171 RX8 yX8_count wsX8_count) := goodIn_app (goodIn_of _ (by decide +kernel)) ggX11_add_X8_count
theorem dX11_add_0 : decode cX11_add 0 = .ok (.aload_n 0, 1) := by decide +kernel
theorem dX11_add_1 : decode cX11_add 1 = .ok (.getfield 10, 3) := by decide +kernel
theorem dX11_add_4 : decode cX11_add 4 = .ok (.aload_n 0, 1) := by decide +kernel
theorem dX11_add_5 : decode cX11_add 5 = .ok (.getfield 19, 3) := by decide +kernel
theorem dX11_add_8 : decode cX11_add 8 = .ok (.invokevirtual 81, 3) := by decide +kernel
theorem dX11_add_11 : decode cX11_add 11 = .ok (.invokevirtual 142, 3) := by decide +kernel
theorem dX11_add_14 : decode cX11_add 14 = .ok (.aload_n 0, 1) := by decide +kernel
theorem dX11_add_15 : decode cX11_add 15 = .ok (.getfield 10, 3) := by decide +kernel
theorem dX11_add_18 : decode cX11_add 18 = .ok (.invokevirtual 146, 3) := by decide +kernel
theorem dX11_add_21 : decode cX11_add 21 = .ok (.aload_n 0, 1) := by decide +kernel
theorem dX11_add_22 : decode cX11_add 22 = .ok (.getfield 29, 3) := by decide +kernel
theorem dX11_add_25 : decode cX11_add 25 = .ok (.aload_n 0, 1) := by decide +kernel
theorem dX11_add_26 : decode cX11_add 26 = .ok (.getfield 19, 3) := by decide +kernel
theorem dX11_add_29 : decode cX11_add 29 = .ok (.invokevirtual 149, 3) := by decide +kernel
theorem dX11_add_32 : decode cX11_add 32 = .ok (.aload_n 0, 1) := by decide +kernel
theorem dX11_add_33 : decode cX11_add 33 = .ok (.getfield 19, 3) := by decide +kernel
theorem dX11_add_36 : decode cX11_add 36 = .ok (.invokevirtual 153, 3) := by decide +kernel
theorem dX11_add_39 : decode cX11_add 39 = .ok (.aload_n 0, 1) := by decide +kernel
theorem dX11_add_40 : decode cX11_add 40 = .ok (.getfield 10, 3) := by decide +kernel
theorem dX11_add_43 : decode cX11_add 43 = .ok (.aload_n 0, 1) := by decide +kernel
theorem dX11_add_44 : decode cX11_add 44 = .ok (.getfield 36, 3) := by decide +kernel
theorem dX11_add_47 : decode cX11_add 47 = .ok (.invokevirtual 157, 3) := by decide +kernel
theorem dX11_add_50 : decode cX11_add 50 = .ok (.ifCond .eq 13, 3) := by decide +kernel
theorem dX11_add_53 : decode cX11_add 53 = .ok (.new 163, 3) := by decide +kernel
theorem dX11_add_56 : decode cX11_add 56 = .ok (.dup, 1) := by decide +kernel
theorem dX11_add_57 : decode cX11_add 57 = .ok (.ldc 165, 2) := by decide +kernel
theorem dX11_add_59 : decode cX11_add 59 = .ok (.invokespecial 167, 3) := by decide +kernel
theorem dX11_add_62 : decode cX11_add 62 = .ok (.athrow, 1) := by decide +kernel
theorem dX11_add_63 : decode cX11_add 63 = .ok (.aload_n 0, 1) := by decide +kernel
theorem dX11_add_64 : decode cX11_add 64 = .ok (.getfield 29, 3) := by decide +kernel
theorem dX11_add_67 : decode cX11_add 67 = .ok (.invokevirtual 168, 3) := by decide +kernel
theorem dX11_add_70 : decode cX11_add 70 = .ok (.aload_n 0, 1) := by decide +kernel
theorem dX11_add_71 : decode cX11_add 71 = .ok (.getfield 19, 3) := by decide +kernel
theorem dX11_add_74 : decode cX11_add 74 = .ok (.invokevirtual 153, 3) := by decide +kernel
theorem dX11_add_77 : decode cX11_add 77 = .ok (.invokevirtual 171, 3) := by decide +kernel
theorem dX11_add_80 : decode cX11_add 80 = .ok (.iconst 1, 1) := by decide +kernel
theorem dX11_add_81 : decode cX11_add 81 = .ok (.isub, 1) := by decide +kernel
theorem dX11_add_82 : decode cX11_add 82 = .ok (.ireturn, 1) := by decide +kernel
set_option maxRecDepth 20000 in
theorem ggX11_addVariant_X11_requireHeadword : GoodIn wsX11_addVariant wsX11_requireHeadword := goodIn_ca (goodIn_r _ [11, 12, 13, 4, 14, 15, 16, 17, 18, 19, 20, 21, 22, 23, 24, 25, 199, 200, 201, 202, 203, 204, 205, 206, 207, 208, 209, 210, 211, 212] (by decide +kernel) (by decide +kernel)) (goodIn_sub (fun _ h => List.mem_cons_of_mem _ (List.mem_append_left _ (List.mem_append_right _ h))) (by decide +kernel))
set_option maxRecDepth 20000 in
theorem gX11_addVariant_X11_requireHeadword : GoodIn wsX11_addVariant (wsV RX11 172 RX11 yX11_requireHeadword wsX11_requireHeadword) := goodIn_app (goodIn_of _ (by decide +kernel)) ggX11_addVariant_X11_requireHeadword
set_option maxRecDepth 20000 in
theorem ggX11_addVariant_X3_alphabet : GoodIn wsX11_addVariant wsX3_alphabet := goodIn_r _ [29, 30, 208, 209, 210] (by decide +kernel) (by decide +kernel)
set_option maxRecDepth 20000 in
theorem gX11_addVariant_X3_alphabet : GoodIn wsX11_addVariant (wsV RX11 81 RX3 yX3_alphabet wsX3_alphabet) := goodIn_app (goodIn_of _ (by decide +kernel)) ggX11_addVariant_X3_alphabet
set_option maxRecDepth 20000 in
theorem ggX11_addVariant_X7_divideAll : GoodIn wsX11_addVariant wsX7_divideAll := goodIn_ca (goodIn_r _ [35, 36, 37, 38, 39, 34, 40, 41, 42, 43, 44, 45, 46, 47, 48, 49, 50, 51, 52, 10, 53, 54, 55, 56, 57, 58, 59, 60, 61, 62, 63, 64, 65, 66, 67, 68, 69, 70, 71, 72, 213, 214, 215, 216, 217, 218, 219, 220] (by decide +kernel) (by decide +kernel)) (goodIn_sub (fun _ h => List.mem_cons_of_mem _ (List.mem_append_right _ h)) (by decide +kernel))
set_option maxRecDepth 20000 in
theorem gX11_addVariant_X7_divideAll : GoodIn wsX11_addVariant (wsV RX11 142 RX7 yX7_divideAll wsX7_divideAll) := goodIn_app (goodIn_of _ (by decide +kernel)) ggX11_addVariant_X7_divideAll
set_option maxRecDepth 20000 in
theorem ggX11_addVariant_X7_clear : GoodIn wsX11_addVariant wsX7_clear := goodIn_r _ [76, 36, 213, 214, 215, 216] (by decide +kernel) (by decide +kernel)
set_option maxRecDepth 20000 in
theorem gX11_addVariant_X7_clear : GoodIn wsX11_addVariant (wsV RX11 146 RX7 yX7_clear wsX7_clear) := goodIn_app (goodIn_of _ (by decide +kernel)) ggX11_addVariant_X7_clear
set_option maxRecDepth 20000 in
theorem ggX11_addVariant_X6_prepare : GoodIn wsX11_addVariant wsX6_prepare := goodIn_r _ [81, 82, 83, 84, 85, 86, 17, 87, 30, 19, 88, 89, 90, 91, 57, 92, 93, 94, 95, 96, 97, 60, 61, 59, 98, 99, 100, 23, 101, 25, 102, 103, 104, 105, 106, 107, 108, 109, 110, 111, 112, 113, 114, 115, 116, 117, 118, 119, 120, 121, 122, 221, 222, 223, 208, 209, 210, 217, 218, 219, 220, 211, 212, 224, 225, 226, 227, 228, 229, 230, 231] (by decide +kernel) (by decide +kernel)
set_option maxRecDepth 20000 in
theorem gX11_addVariant_X6_prepare : GoodIn wsX11_addVariant (wsV RX11 149 RX6 yX6_prepare wsX6_prepare) := goodIn_app (goodIn_of _ (by decide +kernel)) ggX11_addVariant_X6_prepare
set_option maxRecDepth 20000 in
theorem ggX11_addVariant_X3_lexicon : GoodIn wsX11_addVariant wsX3_lexicon := goodIn_r _ [18, 19, 208, 209, 210] (by decide +kernel) (by decide +kernel)
set_option maxRecDepth 20000 in
theorem gX11_addVariant_X3_lexicon : GoodIn wsX11_addVariant (wsV RX11 153 RX3 yX3_lexicon wsX3_lexicon) := goodIn_app (goodIn_of _ (by decide +kernel)) ggX11_addVariant_X3_lexicon
set_option maxRecDepth 20000 in
theorem ggX11_addVariant_X6_keep : GoodIn wsX11_addVariant wsX6_keep := goodIn_r _ [187, 83, 188, 189, 190, 191, 192, 221, 222, 223] (by decide +kernel) (by decide +kernel)
set_option maxRecDepth 20000 in
theorem gX11_addVariant_X6_keep : GoodIn wsX11_addVariant (wsV RX11 168 RX6 yX6_keep wsX6_keep) := goodIn_app (goodIn_of _ (by decide +kernel)) ggX11_addVariant_X6_keep
theorem dX11_addVariant_0 : decode cX11_addVariant 0 = .ok (.aload_n 0, 1) := by decide +kernel
theorem dX11_addVariant_1 : decode cX11_addVariant 1 = .ok (.iload_n 1, 1) := by decide +kernel
theorem dX11_addVariant_2 : decode cX11_addVariant 2 = .ok (.invokevirtual 172, 3) := by decide +kernel
theorem dX11_addVariant_5 : decode cX11_addVariant 5 = .ok (.aload_n 0, 1) := by decide +kernel
theorem dX11_addVariant_6 : decode cX11_addVariant 6 = .ok (.getfield 10, 3) := by decide +kernel
theorem dX11_addVariant_9 : decode cX11_addVariant 9 = .ok (.aload_n 0, 1) := by decide +kernel
theorem dX11_addVariant_10 : decode cX11_addVariant 10 = .ok (.getfield 19, 3) := by decide +kernel
theorem dX11_addVariant_13 : decode cX11_addVariant 13 = .ok (.invokevirtual 81, 3) := by decide +kernel
theorem dX11_addVariant_16 : decode cX11_addVariant 16 = .ok (.invokevirtual 142, 3) := by decide +kernel
theorem dX11_addVariant_19 : decode cX11_addVariant 19 = .ok (.aload_n 0, 1) := by decide +kernel
theorem dX11_addVariant_20 : decode cX11_addVariant 20 = .ok (.getfield 10, 3) := by decide +kernel
theorem dX11_addVariant_23 : decode cX11_addVariant 23 = .ok (.invokevirtual 146, 3) := by decide +kernel
theorem dX11_addVariant_26 : decode cX11_addVariant 26 = .ok (.aload_n 0, 1) := by decide +kernel
theorem dX11_addVariant_27 : decode cX11_addVariant 27 = .ok (.getfield 29, 3) := by decide +kernel
theorem dX11_addVariant_30 : decode cX11_addVariant 30 = .ok (.aload_n 0, 1) := by decide +kernel
theorem dX11_addVariant_31 : decode cX11_addVariant 31 = .ok (.getfield 19, 3) := by decide +kernel
theorem dX11_addVariant_34 : decode cX11_addVariant 34 = .ok (.invokevirtual 149, 3) := by decide +kernel
theorem dX11_addVariant_37 : decode cX11_addVariant 37 = .ok (.aload_n 0, 1) := by decide +kernel
theorem dX11_addVariant_38 : decode cX11_addVariant 38 = .ok (.getfield 19, 3) := by decide +kernel
theorem dX11_addVariant_41 : decode cX11_addVariant 41 = .ok (.invokevirtual 153, 3) := by decide +kernel
theorem dX11_addVariant_44 : decode cX11_addVariant 44 = .ok (.iload_n 1, 1) := by decide +kernel
theorem dX11_addVariant_45 : decode cX11_addVariant 45 = .ok (.aload_n 0, 1) := by decide +kernel
theorem dX11_addVariant_46 : decode cX11_addVariant 46 = .ok (.getfield 10, 3) := by decide +kernel
theorem dX11_addVariant_49 : decode cX11_addVariant 49 = .ok (.aload_n 0, 1) := by decide +kernel
theorem dX11_addVariant_50 : decode cX11_addVariant 50 = .ok (.getfield 36, 3) := by decide +kernel
theorem dX11_addVariant_53 : decode cX11_addVariant 53 = .ok (.invokevirtual 175, 3) := by decide +kernel
theorem dX11_addVariant_56 : decode cX11_addVariant 56 = .ok (.ifCond .eq 13, 3) := by decide +kernel
theorem dX11_addVariant_59 : decode cX11_addVariant 59 = .ok (.new 163, 3) := by decide +kernel
theorem dX11_addVariant_62 : decode cX11_addVariant 62 = .ok (.dup, 1) := by decide +kernel
theorem dX11_addVariant_63 : decode cX11_addVariant 63 = .ok (.ldc 179, 2) := by decide +kernel
theorem dX11_addVariant_65 : decode cX11_addVariant 65 = .ok (.invokespecial 167, 3) := by decide +kernel
theorem dX11_addVariant_68 : decode cX11_addVariant 68 = .ok (.athrow, 1) := by decide +kernel
theorem dX11_addVariant_69 : decode cX11_addVariant 69 = .ok (.aload_n 0, 1) := by decide +kernel
theorem dX11_addVariant_70 : decode cX11_addVariant 70 = .ok (.getfield 29, 3) := by decide +kernel
theorem dX11_addVariant_73 : decode cX11_addVariant 73 = .ok (.invokevirtual 168, 3) := by decide +kernel
theorem dX11_addVariant_76 : decode cX11_addVariant 76 = .ok (.aload_n 0, 1) := by decide +kernel
theorem dX11_addVariant_77 : decode cX11_addVariant 77 = .ok (.iload_n 1, 1) := by decide +kernel
theorem dX11_addVariant_78 : decode cX11_addVariant 78 = .ok (.invokevirtual 181, 3) := by decide +kernel
theorem dX11_addVariant_81 : decode cX11_addVariant 81 = .ok (.invokevirtual 185, 3) := by decide +kernel
theorem dX11_addVariant_84 : decode cX11_addVariant 84 = .ok (.ireturn, 1) := by decide +kernel
set_option maxRecDepth 20000 in
theorem ggX11_rename_X11_requireHeadword : GoodIn wsX11_rename wsX11_requireHeadword := goodIn_ca (goodIn_r _ [11, 12, 13, 4, 14, 15, 16, 17, 18, 19, 20, 21, 22, 23, 24, 25, 187, 188, 189, 190, 191, 192, 193, 194, 195, 196, 197, 198, 199, 200] (by decide +kernel) (by decide +kernel)) (goodIn_sub (fun _ h => List.mem_cons_of_mem _ (List.mem_append_left _ (List.mem_append_right _ h))) (by decide +kernel))
set_option maxRecDepth 20000 in
theorem gX11_rename_X11_requireHeadword : GoodIn wsX11_rename (wsV RX11 172 RX11 yX11_requireHeadword wsX11_requireHeadword) := goodIn_app (goodIn_of _ (by decide +kernel)) ggX11_rename_X11_requireHeadword
set_option maxRecDepth 20000 in
theorem ggX11_rename_X3_alphabet : GoodIn wsX11_rename wsX3_alphabet := goodIn_r _ [29, 30, 196, 197, 198] (by decide +kernel) (by decide +kernel)
set_option maxRecDepth 20000 in
theorem gX11_rename_X3_alphabet : GoodIn wsX11_rename (wsV RX11 81 RX3 yX3_alphabet wsX3_alphabet) := goodIn_app (goodIn_of _ (by decide +kernel)) ggX11_rename_X3_alphabet
set_option maxRecDepth 20000 in
theorem ggX11_rename_X7_divideAll : GoodIn wsX11_rename wsX7_divideAll := goodIn_ca (goodIn_r _ [35, 36, 37, 38, 39, 34, 40, 41, 42, 43, 44, 45, 46, 47, 48, 49, 50, 51, 52, 10, 53, 54, 55, 56, 57, 58, 59, 60, 61, 62, 63, 64, 65, 66, 67, 68, 69, 70, 71, 72, 201, 202, 203, 204, 205, 206, 207, 208] (by decide +kernel) (by decide +kernel)) (goodIn_sub (fun _ h => List.mem_cons_of_mem _ (List.mem_append_right _ h)) (by decide +kernel))
set_option maxRecDepth 20000 in
theorem gX11_rename_X7_divideAll : GoodIn wsX11_rename (wsV RX11 142 RX7 yX7_divideAll wsX7_divideAll) := goodIn_app (goodIn_of _ (by decide +kernel)) ggX11_rename_X7_divideAll
set_option maxRecDepth 20000 in
theorem ggX11_rename_X7_clear : GoodIn wsX11_rename wsX7_clear := goodIn_r _ [76, 36, 201, 202, 203, 204] (by decide +kernel) (by decide +kernel)
set_option maxRecDepth 20000 in
theorem gX11_rename_X7_clear : GoodIn wsX11_rename (wsV RX11 146 RX7 yX7_clear wsX7_clear) := goodIn_app (goodIn_of _ (by decide +kernel)) ggX11_rename_X7_clear
set_option maxRecDepth 20000 in
theorem ggX11_rename_X6_prepare : GoodIn wsX11_rename wsX6_prepare := goodIn_r _ [81, 82, 83, 84, 85, 86, 17, 87, 30, 19, 88, 89, 90, 91, 57, 92, 93, 94, 95, 96, 97, 60, 61, 59, 98, 99, 100, 23, 101, 25, 102, 103, 104, 105, 106, 107, 108, 109, 110, 111, 112, 113, 114, 115, 116, 117, 118, 119, 120, 121, 122, 209, 210, 211, 196, 197, 198, 205, 206, 207, 208, 199, 200, 212, 213, 214, 215, 216, 217, 218, 219] (by decide +kernel) (by decide +kernel)
set_option maxRecDepth 20000 in
theorem gX11_rename_X6_prepare : GoodIn wsX11_rename (wsV RX11 149 RX6 yX6_prepare wsX6_prepare) := goodIn_app (goodIn_of _ (by decide +kernel)) ggX11_rename_X6_prepare
set_option maxRecDepth 20000 in
theorem ggX11_rename_X3_lexicon : GoodIn wsX11_rename wsX3_lexicon := goodIn_r _ [18, 19, 196, 197, 198] (by decide +kernel) (by decide +kernel)
set_option maxRecDepth 20000 in
theorem gX11_rename_X3_lexicon : GoodIn wsX11_rename (wsV RX11 153 RX3 yX3_lexicon wsX3_lexicon) := goodIn_app (goodIn_of _ (by decide +kernel)) ggX11_rename_X3_lexicon
set_option maxRecDepth 20000 in
theorem ggX11_rename_X6_keep : GoodIn wsX11_rename wsX6_keep := goodIn_r _ [181, 83, 182, 183, 184, 185, 186, 209, 210, 211] (by decide +kernel) (by decide +kernel)
set_option maxRecDepth 20000 in
theorem gX11_rename_X6_keep : GoodIn wsX11_rename (wsV RX11 168 RX6 yX6_keep wsX6_keep) := goodIn_app (goodIn_of _ (by decide +kernel)) ggX11_rename_X6_keep
theorem dX11_rename_0 : decode cX11_rename 0 = .ok (.aload_n 0, 1) := by decide +kernel
theorem dX11_rename_1 : decode cX11_rename 1 = .ok (.iload_n 1, 1) := by decide +kernel
theorem dX11_rename_2 : decode cX11_rename 2 = .ok (.invokevirtual 172, 3) := by decide +kernel
theorem dX11_rename_5 : decode cX11_rename 5 = .ok (.aload_n 0, 1) := by decide +kernel
theorem dX11_rename_6 : decode cX11_rename 6 = .ok (.getfield 10, 3) := by decide +kernel
theorem dX11_rename_9 : decode cX11_rename 9 = .ok (.aload_n 0, 1) := by decide +kernel
theorem dX11_rename_10 : decode cX11_rename 10 = .ok (.getfield 19, 3) := by decide +kernel
theorem dX11_rename_13 : decode cX11_rename 13 = .ok (.invokevirtual 81, 3) := by decide +kernel
theorem dX11_rename_16 : decode cX11_rename 16 = .ok (.invokevirtual 142, 3) := by decide +kernel
theorem dX11_rename_19 : decode cX11_rename 19 = .ok (.aload_n 0, 1) := by decide +kernel
theorem dX11_rename_20 : decode cX11_rename 20 = .ok (.getfield 10, 3) := by decide +kernel
theorem dX11_rename_23 : decode cX11_rename 23 = .ok (.invokevirtual 146, 3) := by decide +kernel
theorem dX11_rename_26 : decode cX11_rename 26 = .ok (.aload_n 0, 1) := by decide +kernel
theorem dX11_rename_27 : decode cX11_rename 27 = .ok (.getfield 29, 3) := by decide +kernel
theorem dX11_rename_30 : decode cX11_rename 30 = .ok (.aload_n 0, 1) := by decide +kernel
theorem dX11_rename_31 : decode cX11_rename 31 = .ok (.getfield 19, 3) := by decide +kernel
theorem dX11_rename_34 : decode cX11_rename 34 = .ok (.invokevirtual 149, 3) := by decide +kernel
theorem dX11_rename_37 : decode cX11_rename 37 = .ok (.aload_n 0, 1) := by decide +kernel
theorem dX11_rename_38 : decode cX11_rename 38 = .ok (.iload_n 1, 1) := by decide +kernel
theorem dX11_rename_39 : decode cX11_rename 39 = .ok (.invokevirtual 181, 3) := by decide +kernel
theorem dX11_rename_42 : decode cX11_rename 42 = .ok (.invokevirtual 190, 3) := by decide +kernel
theorem dX11_rename_45 : decode cX11_rename 45 = .ok (.invokestatic 194, 3) := by decide +kernel
theorem dX11_rename_48 : decode cX11_rename 48 = .ok (.istore_n 2, 1) := by decide +kernel
theorem dX11_rename_49 : decode cX11_rename 49 = .ok (.aload_n 0, 1) := by decide +kernel
theorem dX11_rename_50 : decode cX11_rename 50 = .ok (.getfield 19, 3) := by decide +kernel
theorem dX11_rename_53 : decode cX11_rename 53 = .ok (.invokevirtual 153, 3) := by decide +kernel
theorem dX11_rename_56 : decode cX11_rename 56 = .ok (.iload_n 1, 1) := by decide +kernel
theorem dX11_rename_57 : decode cX11_rename 57 = .ok (.aload_n 0, 1) := by decide +kernel
theorem dX11_rename_58 : decode cX11_rename 58 = .ok (.getfield 10, 3) := by decide +kernel
theorem dX11_rename_61 : decode cX11_rename 61 = .ok (.aload_n 0, 1) := by decide +kernel
theorem dX11_rename_62 : decode cX11_rename 62 = .ok (.getfield 36, 3) := by decide +kernel
theorem dX11_rename_65 : decode cX11_rename 65 = .ok (.invokevirtual 200, 3) := by decide +kernel
theorem dX11_rename_68 : decode cX11_rename 68 = .ok (.ifCond .eq 13, 3) := by decide +kernel
theorem dX11_rename_71 : decode cX11_rename 71 = .ok (.new 163, 3) := by decide +kernel
theorem dX11_rename_74 : decode cX11_rename 74 = .ok (.dup, 1) := by decide +kernel
theorem dX11_rename_75 : decode cX11_rename 75 = .ok (.ldc 203, 2) := by decide +kernel
theorem dX11_rename_77 : decode cX11_rename 77 = .ok (.invokespecial 167, 3) := by decide +kernel
theorem dX11_rename_80 : decode cX11_rename 80 = .ok (.athrow, 1) := by decide +kernel
theorem dX11_rename_81 : decode cX11_rename 81 = .ok (.aload_n 0, 1) := by decide +kernel
theorem dX11_rename_82 : decode cX11_rename 82 = .ok (.getfield 29, 3) := by decide +kernel
theorem dX11_rename_85 : decode cX11_rename 85 = .ok (.invokevirtual 168, 3) := by decide +kernel
theorem dX11_rename_88 : decode cX11_rename 88 = .ok (.iload_n 2, 1) := by decide +kernel
theorem dX11_rename_89 : decode cX11_rename 89 = .ok (.ireturn, 1) := by decide +kernel
set_option maxRecDepth 20000 in
theorem ggX11_promote_X11_requireHeadword : GoodIn wsX11_promote wsX11_requireHeadword := goodIn_ca (goodIn_r _ [5, 6, 7, 8, 9, 10, 11, 12, 13, 14, 15, 16, 17, 18, 19, 20, 126, 127, 128, 129, 130, 131, 132, 133, 134, 135, 136, 137, 138, 139] (by decide +kernel) (by decide +kernel)) (goodIn_sub (fun _ h => List.mem_cons_of_mem _ (List.mem_append_left _ (List.mem_append_left _ (List.mem_append_right _ h)))) (by decide +kernel))
set_option maxRecDepth 20000 in
theorem gX11_promote_X11_requireHeadword : GoodIn wsX11_promote (wsV RX11 172 RX11 yX11_requireHeadword wsX11_requireHeadword) := goodIn_app (goodIn_of _ (by decide +kernel)) ggX11_promote_X11_requireHeadword
set_option maxRecDepth 20000 in
theorem ggX11_promote_X11_remember : GoodIn wsX11_promote wsX11_remember := goodIn_r _ [50, 51, 8, 52, 53, 54, 55, 56, 57, 58, 59, 60, 61, 12, 62, 63, 14, 64, 65, 66, 67, 68, 69, 70, 71, 72, 73, 74, 75, 76, 77, 78, 79, 80, 18, 81, 20, 39, 82, 83, 84, 44, 85, 86, 87, 46, 88, 89, 90, 91, 92, 93, 94, 95, 96, 97, 98, 99, 100, 101, 102, 103, 104, 105, 106, 107, 108, 126, 127, 128, 129, 130, 131, 132, 133, 134, 143, 144, 145, 135, 136, 137, 146, 147, 148, 149, 138, 139, 140, 141, 142, 150, 151, 152, 153, 154] (by decide +kernel) (by decide +kernel)
set_option maxRecDepth 20000 in
theorem gX11_promote_X11_remember : GoodIn wsX11_promote (wsV RX11 111 RX11 yX11_remember wsX11_remember) := goodIn_app (goodIn_of _ (by decide +kernel)) ggX11_promote_X11_remember
theorem dX11_promote_0 : decode cX11_promote 0 = .ok (.aload_n 0, 1) := by decide +kernel
theorem dX11_promote_1 : decode cX11_promote 1 = .ok (.iload_n 1, 1) := by decide +kernel
theorem dX11_promote_2 : decode cX11_promote 2 = .ok (.invokevirtual 172, 3) := by decide +kernel
theorem dX11_promote_5 : decode cX11_promote 5 = .ok (.aload_n 0, 1) := by decide +kernel
theorem dX11_promote_6 : decode cX11_promote 6 = .ok (.iload_n 1, 1) := by decide +kernel
theorem dX11_promote_7 : decode cX11_promote 7 = .ok (.iload_n 2, 1) := by decide +kernel
theorem dX11_promote_8 : decode cX11_promote 8 = .ok (.invokevirtual 205, 3) := by decide +kernel
theorem dX11_promote_11 : decode cX11_promote 11 = .ok (.aload_n 0, 1) := by decide +kernel
theorem dX11_promote_12 : decode cX11_promote 12 = .ok (.invokevirtual 111, 3) := by decide +kernel
theorem dX11_promote_15 : decode cX11_promote 15 = .ok (.aload_n 0, 1) := by decide +kernel
theorem dX11_promote_16 : decode cX11_promote 16 = .ok (.iload_n 1, 1) := by decide +kernel
theorem dX11_promote_17 : decode cX11_promote 17 = .ok (.invokevirtual 181, 3) := by decide +kernel
theorem dX11_promote_20 : decode cX11_promote 20 = .ok (.iload_n 2, 1) := by decide +kernel
theorem dX11_promote_21 : decode cX11_promote 21 = .ok (.invokevirtual 208, 3) := by decide +kernel
theorem dX11_promote_24 : decode cX11_promote 24 = .ok (.aload_n 0, 1) := by decide +kernel
theorem dX11_promote_25 : decode cX11_promote 25 = .ok (.iload_n 1, 1) := by decide +kernel
theorem dX11_promote_26 : decode cX11_promote 26 = .ok (.invokevirtual 181, 3) := by decide +kernel
theorem dX11_promote_29 : decode cX11_promote 29 = .ok (.invokevirtual 190, 3) := by decide +kernel
theorem dX11_promote_32 : decode cX11_promote 32 = .ok (.invokestatic 194, 3) := by decide +kernel
theorem dX11_promote_35 : decode cX11_promote 35 = .ok (.ireturn, 1) := by decide +kernel
set_option maxRecDepth 20000 in
theorem ggX11_removeVariant_X11_requireHeadword : GoodIn wsX11_removeVariant wsX11_requireHeadword := goodIn_ca (goodIn_r _ [5, 6, 7, 8, 9, 10, 11, 12, 13, 14, 15, 16, 17, 18, 19, 20, 117, 118, 119, 120, 121, 122, 123, 124, 125, 126, 127, 128, 129, 130] (by decide +kernel) (by decide +kernel)) (goodIn_sub (fun _ h => List.mem_cons_of_mem _ (List.mem_append_left _ (List.mem_append_left _ (List.mem_append_right _ h)))) (by decide +kernel))
set_option maxRecDepth 20000 in
theorem gX11_removeVariant_X11_requireHeadword : GoodIn wsX11_removeVariant (wsV RX11 172 RX11 yX11_requireHeadword wsX11_requireHeadword) := goodIn_app (goodIn_of _ (by decide +kernel)) ggX11_removeVariant_X11_requireHeadword
set_option maxRecDepth 20000 in
theorem ggX11_removeVariant_X11_remember : GoodIn wsX11_removeVariant wsX11_remember := goodIn_r _ [50, 51, 8, 52, 53, 54, 55, 56, 57, 58, 59, 60, 61, 12, 62, 63, 14, 64, 65, 66, 67, 68, 69, 70, 71, 72, 73, 74, 75, 76, 77, 78, 79, 80, 18, 81, 20, 39, 82, 83, 84, 44, 85, 86, 87, 46, 88, 89, 90, 91, 92, 93, 94, 95, 96, 97, 98, 99, 100, 101, 102, 103, 104, 105, 106, 107, 108, 117, 118, 119, 120, 121, 122, 123, 124, 125, 134, 135, 136, 126, 127, 128, 137, 138, 139, 140, 129, 130, 131, 132, 133, 141, 142, 143, 144, 145] (by decide +kernel) (by decide +kernel)
set_option maxRecDepth 20000 in
theorem gX11_removeVariant_X11_remember : GoodIn wsX11_removeVariant (wsV RX11 111 RX11 yX11_remember wsX11_remember) := goodIn_app (goodIn_of _ (by decide +kernel)) ggX11_removeVariant_X11_remember
theorem dX11_removeVariant_0 : decode cX11_removeVariant 0 = .ok (.aload_n 0, 1) := by decide +kernel
theorem dX11_removeVariant_1 : decode cX11_removeVariant 1 = .ok (.iload_n 1, 1) := by decide +kernel
theorem dX11_removeVariant_2 : decode cX11_removeVariant 2 = .ok (.invokevirtual 172, 3) := by decide +kernel
theorem dX11_removeVariant_5 : decode cX11_removeVariant 5 = .ok (.aload_n 0, 1) := by decide +kernel
theorem dX11_removeVariant_6 : decode cX11_removeVariant 6 = .ok (.iload_n 1, 1) := by decide +kernel
theorem dX11_removeVariant_7 : decode cX11_removeVariant 7 = .ok (.iload_n 2, 1) := by decide +kernel
theorem dX11_removeVariant_8 : decode cX11_removeVariant 8 = .ok (.invokevirtual 205, 3) := by decide +kernel
theorem dX11_removeVariant_11 : decode cX11_removeVariant 11 = .ok (.aload_n 0, 1) := by decide +kernel
theorem dX11_removeVariant_12 : decode cX11_removeVariant 12 = .ok (.invokevirtual 111, 3) := by decide +kernel
theorem dX11_removeVariant_15 : decode cX11_removeVariant 15 = .ok (.aload_n 0, 1) := by decide +kernel
theorem dX11_removeVariant_16 : decode cX11_removeVariant 16 = .ok (.iload_n 1, 1) := by decide +kernel
theorem dX11_removeVariant_17 : decode cX11_removeVariant 17 = .ok (.invokevirtual 181, 3) := by decide +kernel
theorem dX11_removeVariant_20 : decode cX11_removeVariant 20 = .ok (.iload_n 2, 1) := by decide +kernel
theorem dX11_removeVariant_21 : decode cX11_removeVariant 21 = .ok (.invokevirtual 211, 3) := by decide +kernel
theorem dX11_removeVariant_24 : decode cX11_removeVariant 24 = .ok (.aload_n 0, 1) := by decide +kernel
theorem dX11_removeVariant_25 : decode cX11_removeVariant 25 = .ok (.iload_n 1, 1) := by decide +kernel
theorem dX11_removeVariant_26 : decode cX11_removeVariant 26 = .ok (.invokevirtual 181, 3) := by decide +kernel
theorem dX11_removeVariant_29 : decode cX11_removeVariant 29 = .ok (.invokevirtual 185, 3) := by decide +kernel
theorem dX11_removeVariant_32 : decode cX11_removeVariant 32 = .ok (.ireturn, 1) := by decide +kernel
set_option maxRecDepth 20000 in
theorem ggX11_remove_X11_requireHeadword : GoodIn wsX11_remove wsX11_requireHeadword := goodIn_ca (goodIn_r _ [6, 7, 8, 1, 9, 10, 11, 12, 13, 14, 15, 16, 17, 18, 19, 20, 99, 100, 101, 102, 103, 104, 105, 106, 107, 108, 109, 110, 111, 112] (by decide +kernel) (by decide +kernel)) (goodIn_sub (fun _ h => List.mem_cons_of_mem _ (List.mem_append_right _ h)) (by decide +kernel))
set_option maxRecDepth 20000 in
theorem gX11_remove_X11_requireHeadword : GoodIn wsX11_remove (wsV RX11 172 RX11 yX11_requireHeadword wsX11_requireHeadword) := goodIn_app (goodIn_of _ (by decide +kernel)) ggX11_remove_X11_requireHeadword
set_option maxRecDepth 20000 in
theorem ggX11_remove_X11_remember : GoodIn wsX11_remove wsX11_remember := goodIn_r _ [24, 25, 1, 26, 27, 28, 29, 30, 31, 32, 33, 34, 35, 12, 36, 37, 14, 38, 39, 40, 41, 42, 43, 44, 45, 46, 47, 48, 49, 50, 51, 52, 53, 54, 18, 55, 20, 56, 57, 58, 59, 60, 61, 62, 63, 64, 65, 66, 67, 68, 69, 70, 71, 72, 73, 74, 75, 76, 77, 78, 79, 80, 81, 82, 83, 84, 85, 99, 100, 101, 102, 103, 104, 105, 106, 107, 113, 114, 115, 108, 109, 110, 116, 117, 118, 119, 111, 112, 120, 121, 122, 123, 124, 125, 126, 127] (by decide +kernel) (by decide +kernel)
set_option maxRecDepth 20000 in
theorem gX11_remove_X11_remember : GoodIn wsX11_remove (wsV RX11 111 RX11 yX11_remember wsX11_remember) := goodIn_app (goodIn_of _ (by decide +kernel)) ggX11_remove_X11_remember
set_option maxRecDepth 20000 in
theorem ggX11_remove_X3_lexicon : GoodIn wsX11_remove wsX3_lexicon := goodIn_r _ [13, 14, 108, 109, 110] (by decide +kernel) (by decide +kernel)
set_option maxRecDepth 20000 in
theorem gX11_remove_X3_lexicon : GoodIn wsX11_remove (wsV RX11 153 RX3 yX3_lexicon wsX3_lexicon) := goodIn_app (goodIn_of _ (by decide +kernel)) ggX11_remove_X3_lexicon
theorem dX11_remove_0 : decode cX11_remove 0 = .ok (.aload_n 0, 1) := by decide +kernel
theorem dX11_remove_1 : decode cX11_remove 1 = .ok (.iload_n 1, 1) := by decide +kernel
theorem dX11_remove_2 : decode cX11_remove 2 = .ok (.invokevirtual 172, 3) := by decide +kernel
theorem dX11_remove_5 : decode cX11_remove 5 = .ok (.aload_n 0, 1) := by decide +kernel
theorem dX11_remove_6 : decode cX11_remove 6 = .ok (.invokevirtual 111, 3) := by decide +kernel
theorem dX11_remove_9 : decode cX11_remove 9 = .ok (.aload_n 0, 1) := by decide +kernel
theorem dX11_remove_10 : decode cX11_remove 10 = .ok (.getfield 19, 3) := by decide +kernel
theorem dX11_remove_13 : decode cX11_remove 13 = .ok (.invokevirtual 153, 3) := by decide +kernel
theorem dX11_remove_16 : decode cX11_remove 16 = .ok (.iload_n 1, 1) := by decide +kernel
theorem dX11_remove_17 : decode cX11_remove 17 = .ok (.invokevirtual 214, 3) := by decide +kernel
theorem dX11_remove_20 : decode cX11_remove 20 = .ok (.ireturn, 1) := by decide +kernel
set_option maxRecDepth 20000 in
theorem ggX11_join_X11_requireHeadword : GoodIn wsX11_join wsX11_requireHeadword := goodIn_ca (goodIn_r _ [10, 11, 12, 4, 13, 14, 15, 16, 17, 18, 19, 20, 21, 22, 23, 24, 153, 154, 155, 156, 157, 158, 159, 160, 161, 162, 163, 164, 165, 166] (by decide +kernel) (by decide +kernel)) (goodIn_sub (fun _ h => List.mem_cons_of_mem _ (List.mem_append_left _ (List.mem_append_right _ h))) (by decide +kernel))
set_option maxRecDepth 20000 in
theorem gX11_join_X11_requireHeadword : GoodIn wsX11_join (wsV RX11 172 RX11 yX11_requireHeadword wsX11_requireHeadword) := goodIn_app (goodIn_of _ (by decide +kernel)) ggX11_join_X11_requireHeadword
set_option maxRecDepth 20000 in
theorem ggX11_join_X6_prepare : GoodIn wsX11_join wsX6_prepare := goodIn_r _ [29, 30, 31, 32, 33, 34, 16, 35, 36, 18, 37, 38, 39, 40, 41, 42, 43, 44, 45, 46, 47, 48, 49, 50, 51, 52, 53, 22, 54, 24, 55, 56, 57, 58, 59, 60, 61, 62, 63, 64, 65, 66, 67, 68, 69, 70, 71, 72, 73, 74, 75, 167, 168, 169, 162, 163, 164, 170, 171, 172, 173, 165, 166, 174, 175, 176, 177, 178, 179, 180, 181] (by decide +kernel) (by decide +kernel)
set_option maxRecDepth 20000 in
theorem gX11_join_X6_prepare : GoodIn wsX11_join (wsV RX11 149 RX6 yX6_prepare wsX6_prepare) := goodIn_app (goodIn_of _ (by decide +kernel)) ggX11_join_X6_prepare
set_option maxRecDepth 20000 in
theorem ggX11_join_X3_lexicon : GoodIn wsX11_join wsX3_lexicon := goodIn_r _ [17, 18, 162, 163, 164] (by decide +kernel) (by decide +kernel)
set_option maxRecDepth 20000 in
theorem gX11_join_X3_lexicon : GoodIn wsX11_join (wsV RX11 153 RX3 yX3_lexicon wsX3_lexicon) := goodIn_app (goodIn_of _ (by decide +kernel)) ggX11_join_X3_lexicon
set_option maxRecDepth 20000 in
theorem ggX11_join_X6_keep : GoodIn wsX11_join wsX6_keep := goodIn_r _ [147, 31, 148, 149, 150, 151, 152, 167, 168, 169] (by decide +kernel) (by decide +kernel)
set_option maxRecDepth 20000 in
theorem gX11_join_X6_keep : GoodIn wsX11_join (wsV RX11 168 RX6 yX6_keep wsX6_keep) := goodIn_app (goodIn_of _ (by decide +kernel)) ggX11_join_X6_keep
theorem dX11_join_0 : decode cX11_join 0 = .ok (.aload_n 0, 1) := by decide +kernel
theorem dX11_join_1 : decode cX11_join 1 = .ok (.iload_n 1, 1) := by decide +kernel
theorem dX11_join_2 : decode cX11_join 2 = .ok (.invokevirtual 172, 3) := by decide +kernel
theorem dX11_join_5 : decode cX11_join 5 = .ok (.aload_n 0, 1) := by decide +kernel
theorem dX11_join_6 : decode cX11_join 6 = .ok (.iload_n 2, 1) := by decide +kernel
theorem dX11_join_7 : decode cX11_join 7 = .ok (.invokevirtual 172, 3) := by decide +kernel
theorem dX11_join_10 : decode cX11_join 10 = .ok (.aload_n 0, 1) := by decide +kernel
theorem dX11_join_11 : decode cX11_join 11 = .ok (.getfield 29, 3) := by decide +kernel
theorem dX11_join_14 : decode cX11_join 14 = .ok (.aload_n 0, 1) := by decide +kernel
theorem dX11_join_15 : decode cX11_join 15 = .ok (.getfield 19, 3) := by decide +kernel
theorem dX11_join_18 : decode cX11_join 18 = .ok (.invokevirtual 149, 3) := by decide +kernel
theorem dX11_join_21 : decode cX11_join 21 = .ok (.aload_n 0, 1) := by decide +kernel
theorem dX11_join_22 : decode cX11_join 22 = .ok (.iload_n 1, 1) := by decide +kernel
theorem dX11_join_23 : decode cX11_join 23 = .ok (.invokevirtual 181, 3) := by decide +kernel
theorem dX11_join_26 : decode cX11_join 26 = .ok (.invokevirtual 185, 3) := by decide +kernel
theorem dX11_join_29 : decode cX11_join 29 = .ok (.aload_n 0, 1) := by decide +kernel
theorem dX11_join_30 : decode cX11_join 30 = .ok (.iload_n 2, 1) := by decide +kernel
theorem dX11_join_31 : decode cX11_join 31 = .ok (.invokevirtual 181, 3) := by decide +kernel
theorem dX11_join_34 : decode cX11_join 34 = .ok (.invokevirtual 217, 3) := by decide +kernel
theorem dX11_join_37 : decode cX11_join 37 = .ok (.iadd, 1) := by decide +kernel
theorem dX11_join_38 : decode cX11_join 38 = .ok (.istore_n 3, 1) := by decide +kernel
theorem dX11_join_39 : decode cX11_join 39 = .ok (.aload_n 0, 1) := by decide +kernel
theorem dX11_join_40 : decode cX11_join 40 = .ok (.getfield 19, 3) := by decide +kernel
theorem dX11_join_43 : decode cX11_join 43 = .ok (.invokevirtual 153, 3) := by decide +kernel
theorem dX11_join_46 : decode cX11_join 46 = .ok (.iload_n 1, 1) := by decide +kernel
theorem dX11_join_47 : decode cX11_join 47 = .ok (.iload_n 2, 1) := by decide +kernel
theorem dX11_join_48 : decode cX11_join 48 = .ok (.aload_n 0, 1) := by decide +kernel
theorem dX11_join_49 : decode cX11_join 49 = .ok (.getfield 36, 3) := by decide +kernel
theorem dX11_join_52 : decode cX11_join 52 = .ok (.invokevirtual 220, 3) := by decide +kernel
theorem dX11_join_55 : decode cX11_join 55 = .ok (.ifCond .eq 13, 3) := by decide +kernel
theorem dX11_join_58 : decode cX11_join 58 = .ok (.new 163, 3) := by decide +kernel
theorem dX11_join_61 : decode cX11_join 61 = .ok (.dup, 1) := by decide +kernel
theorem dX11_join_62 : decode cX11_join 62 = .ok (.ldc 224, 2) := by decide +kernel
theorem dX11_join_64 : decode cX11_join 64 = .ok (.invokespecial 167, 3) := by decide +kernel
theorem dX11_join_67 : decode cX11_join 67 = .ok (.athrow, 1) := by decide +kernel
theorem dX11_join_68 : decode cX11_join 68 = .ok (.aload_n 0, 1) := by decide +kernel
theorem dX11_join_69 : decode cX11_join 69 = .ok (.getfield 29, 3) := by decide +kernel
theorem dX11_join_72 : decode cX11_join 72 = .ok (.invokevirtual 168, 3) := by decide +kernel
theorem dX11_join_75 : decode cX11_join 75 = .ok (.iload_n 3, 1) := by decide +kernel
theorem dX11_join_76 : decode cX11_join 76 = .ok (.ireturn, 1) := by decide +kernel
set_option maxRecDepth 20000 in
theorem ggX11_find_X3_alphabet : GoodIn wsX11_find wsX3_alphabet := goodIn_r _ [9, 10, 94, 95, 96] (by decide +kernel) (by decide +kernel)
set_option maxRecDepth 20000 in
theorem gX11_find_X3_alphabet : GoodIn wsX11_find (wsV RX11 81 RX3 yX3_alphabet wsX3_alphabet) := goodIn_app (goodIn_of _ (by decide +kernel)) ggX11_find_X3_alphabet
set_option maxRecDepth 20000 in
theorem ggX11_find_X7_divideAll : GoodIn wsX11_find wsX7_divideAll := goodIn_ca (goodIn_r _ [15, 16, 17, 18, 19, 14, 20, 21, 22, 23, 24, 25, 26, 27, 28, 29, 30, 31, 32, 33, 34, 35, 36, 37, 38, 39, 40, 41, 42, 43, 44, 45, 46, 47, 48, 49, 50, 51, 52, 53, 97, 98, 99, 100, 101, 102, 103, 104] (by decide +kernel) (by decide +kernel)) (goodIn_sub (fun _ h => List.mem_cons_of_mem _ (List.mem_append_right _ h)) (by decide +kernel))
set_option maxRecDepth 20000 in
theorem gX11_find_X7_divideAll : GoodIn wsX11_find (wsV RX11 142 RX7 yX7_divideAll wsX7_divideAll) := goodIn_app (goodIn_of _ (by decide +kernel)) ggX11_find_X7_divideAll
set_option maxRecDepth 20000 in
theorem ggX11_find_X7_clear : GoodIn wsX11_find wsX7_clear := goodIn_r _ [57, 16, 97, 98, 99, 100] (by decide +kernel) (by decide +kernel)
set_option maxRecDepth 20000 in
theorem gX11_find_X7_clear : GoodIn wsX11_find (wsV RX11 146 RX7 yX7_clear wsX7_clear) := goodIn_app (goodIn_of _ (by decide +kernel)) ggX11_find_X7_clear
set_option maxRecDepth 20000 in
theorem ggX11_find_X7_isForm : GoodIn wsX11_find wsX7_isForm := goodIn_r _ [61, 22, 97, 98, 99, 100] (by decide +kernel) (by decide +kernel)
set_option maxRecDepth 20000 in
theorem gX11_find_X7_isForm : GoodIn wsX11_find (wsV RX11 226 RX7 yX7_isForm wsX7_isForm) := goodIn_app (goodIn_of _ (by decide +kernel)) ggX11_find_X7_isForm
set_option maxRecDepth 20000 in
theorem ggX11_find_X3_lexicon : GoodIn wsX11_find wsX3_lexicon := goodIn_r _ [65, 66, 94, 95, 96] (by decide +kernel) (by decide +kernel)
set_option maxRecDepth 20000 in
theorem gX11_find_X3_lexicon : GoodIn wsX11_find (wsV RX11 153 RX3 yX3_lexicon wsX3_lexicon) := goodIn_app (goodIn_of _ (by decide +kernel)) ggX11_find_X3_lexicon
theorem dX11_find_0 : decode cX11_find 0 = .ok (.aload_n 0, 1) := by decide +kernel
theorem dX11_find_1 : decode cX11_find 1 = .ok (.getfield 10, 3) := by decide +kernel
theorem dX11_find_4 : decode cX11_find 4 = .ok (.aload_n 0, 1) := by decide +kernel
theorem dX11_find_5 : decode cX11_find 5 = .ok (.getfield 19, 3) := by decide +kernel
theorem dX11_find_8 : decode cX11_find 8 = .ok (.invokevirtual 81, 3) := by decide +kernel
theorem dX11_find_11 : decode cX11_find 11 = .ok (.invokevirtual 142, 3) := by decide +kernel
theorem dX11_find_14 : decode cX11_find 14 = .ok (.aload_n 0, 1) := by decide +kernel
theorem dX11_find_15 : decode cX11_find 15 = .ok (.getfield 10, 3) := by decide +kernel
theorem dX11_find_18 : decode cX11_find 18 = .ok (.invokevirtual 146, 3) := by decide +kernel
theorem dX11_find_21 : decode cX11_find 21 = .ok (.aload_n 0, 1) := by decide +kernel
theorem dX11_find_22 : decode cX11_find 22 = .ok (.getfield 10, 3) := by decide +kernel
theorem dX11_find_25 : decode cX11_find 25 = .ok (.invokevirtual 226, 3) := by decide +kernel
theorem dX11_find_28 : decode cX11_find 28 = .ok (.ifCond .eq 23, 3) := by decide +kernel
theorem dX11_find_31 : decode cX11_find 31 = .ok (.aload_n 0, 1) := by decide +kernel
theorem dX11_find_32 : decode cX11_find 32 = .ok (.getfield 19, 3) := by decide +kernel
theorem dX11_find_35 : decode cX11_find 35 = .ok (.invokevirtual 153, 3) := by decide +kernel
theorem dX11_find_38 : decode cX11_find 38 = .ok (.aload_n 0, 1) := by decide +kernel
theorem dX11_find_39 : decode cX11_find 39 = .ok (.getfield 10, 3) := by decide +kernel
theorem dX11_find_42 : decode cX11_find 42 = .ok (.invokevirtual 229, 3) := by decide +kernel
theorem dX11_find_45 : decode cX11_find 45 = .ok (.invokevirtual 232, 3) := by decide +kernel
theorem dX11_find_48 : decode cX11_find 48 = .ok (.goto 4, 3) := by decide +kernel
theorem dX11_find_51 : decode cX11_find 51 = .ok (.iconst (-1), 1) := by decide +kernel
theorem dX11_find_52 : decode cX11_find 52 = .ok (.istore_n 1, 1) := by decide +kernel
theorem dX11_find_53 : decode cX11_find 53 = .ok (.iload_n 1, 1) := by decide +kernel
theorem dX11_find_54 : decode cX11_find 54 = .ok (.iconst (-1), 1) := by decide +kernel
theorem dX11_find_55 : decode cX11_find 55 = .ok (.if_icmp .ne 13, 3) := by decide +kernel
theorem dX11_find_58 : decode cX11_find 58 = .ok (.new 235, 3) := by decide +kernel
theorem dX11_find_61 : decode cX11_find 61 = .ok (.dup, 1) := by decide +kernel
theorem dX11_find_62 : decode cX11_find 62 = .ok (.ldc 237, 2) := by decide +kernel
theorem dX11_find_64 : decode cX11_find 64 = .ok (.invokespecial 239, 3) := by decide +kernel
theorem dX11_find_67 : decode cX11_find 67 = .ok (.athrow, 1) := by decide +kernel
theorem dX11_find_68 : decode cX11_find 68 = .ok (.iload_n 1, 1) := by decide +kernel
theorem dX11_find_69 : decode cX11_find 69 = .ok (.ireturn, 1) := by decide +kernel
set_option maxRecDepth 20000 in
theorem ggX11_headword_X11_requireHeadword : GoodIn wsX11_headword wsX11_requireHeadword := goodIn_ca (goodIn_r _ [8, 9, 10, 3, 11, 12, 13, 14, 15, 16, 17, 18, 19, 20, 21, 22, 180, 181, 182, 183, 184, 185, 186, 187, 188, 189, 190, 191, 192, 193] (by decide +kernel) (by decide +kernel)) (goodIn_sub (fun _ h => List.mem_cons_of_mem _ (List.mem_append_left _ (List.mem_append_right _ h))) (by decide +kernel))
set_option maxRecDepth 20000 in
theorem gX11_headword_X11_requireHeadword : GoodIn wsX11_headword (wsV RX11 172 RX11 yX11_requireHeadword wsX11_requireHeadword) := goodIn_app (goodIn_of _ (by decide +kernel)) ggX11_headword_X11_requireHeadword
set_option maxRecDepth 20000 in
theorem ggX11_headword_X3_lexicon : GoodIn wsX11_headword wsX3_lexicon := goodIn_r _ [15, 16, 189, 190, 191] (by decide +kernel) (by decide +kernel)
set_option maxRecDepth 20000 in
theorem gX11_headword_X3_lexicon : GoodIn wsX11_headword (wsV RX11 153 RX3 yX3_lexicon wsX3_lexicon) := goodIn_app (goodIn_of _ (by decide +kernel)) ggX11_headword_X3_lexicon
set_option maxRecDepth 20000 in
theorem ggX11_headword_X3_alphabet : GoodIn wsX11_headword wsX3_alphabet := goodIn_r _ [57, 58, 189, 190, 191] (by decide +kernel) (by decide +kernel)
set_option maxRecDepth 20000 in
theorem gX11_headword_X3_alphabet : GoodIn wsX11_headword (wsV RX11 81 RX3 yX3_alphabet wsX3_alphabet) := goodIn_app (goodIn_of _ (by decide +kernel)) ggX11_headword_X3_alphabet
theorem dX11_headword_0 : decode cX11_headword 0 = .ok (.aload_n 0, 1) := by decide +kernel
theorem dX11_headword_1 : decode cX11_headword 1 = .ok (.iload_n 1, 1) := by decide +kernel
theorem dX11_headword_2 : decode cX11_headword 2 = .ok (.invokevirtual 172, 3) := by decide +kernel
theorem dX11_headword_5 : decode cX11_headword 5 = .ok (.aload_n 0, 1) := by decide +kernel
theorem dX11_headword_6 : decode cX11_headword 6 = .ok (.getfield 19, 3) := by decide +kernel
theorem dX11_headword_9 : decode cX11_headword 9 = .ok (.invokevirtual 153, 3) := by decide +kernel
theorem dX11_headword_12 : decode cX11_headword 12 = .ok (.astore_n 3, 1) := by decide +kernel
theorem dX11_headword_13 : decode cX11_headword 13 = .ok (.iload_n 2, 1) := by decide +kernel
theorem dX11_headword_14 : decode cX11_headword 14 = .ok (.tableswitch 103 0 6 #[42, 51, 60, 66, 72, 85, 91], 42) := by decide +kernel
theorem dX11_headword_56 : decode cX11_headword 56 = .ok (.aload_n 0, 1) := by decide +kernel
theorem dX11_headword_57 : decode cX11_headword 57 = .ok (.iload_n 1, 1) := by decide +kernel
theorem dX11_headword_58 : decode cX11_headword 58 = .ok (.invokevirtual 181, 3) := by decide +kernel
theorem dX11_headword_61 : decode cX11_headword 61 = .ok (.invokevirtual 185, 3) := by decide +kernel
theorem dX11_headword_64 : decode cX11_headword 64 = .ok (.ireturn, 1) := by decide +kernel
theorem dX11_headword_65 : decode cX11_headword 65 = .ok (.aload_n 0, 1) := by decide +kernel
theorem dX11_headword_66 : decode cX11_headword 66 = .ok (.iload_n 1, 1) := by decide +kernel
theorem dX11_headword_67 : decode cX11_headword 67 = .ok (.invokevirtual 181, 3) := by decide +kernel
theorem dX11_headword_70 : decode cX11_headword 70 = .ok (.invokevirtual 240, 3) := by decide +kernel
theorem dX11_headword_73 : decode cX11_headword 73 = .ok (.ireturn, 1) := by decide +kernel
theorem dX11_headword_74 : decode cX11_headword 74 = .ok (.aload_n 3, 1) := by decide +kernel
theorem dX11_headword_75 : decode cX11_headword 75 = .ok (.iload_n 1, 1) := by decide +kernel
theorem dX11_headword_76 : decode cX11_headword 76 = .ok (.invokevirtual 243, 3) := by decide +kernel
theorem dX11_headword_79 : decode cX11_headword 79 = .ok (.ireturn, 1) := by decide +kernel
theorem dX11_headword_80 : decode cX11_headword 80 = .ok (.aload_n 3, 1) := by decide +kernel
theorem dX11_headword_81 : decode cX11_headword 81 = .ok (.iload_n 1, 1) := by decide +kernel
theorem dX11_headword_82 : decode cX11_headword 82 = .ok (.invokevirtual 246, 3) := by decide +kernel
theorem dX11_headword_85 : decode cX11_headword 85 = .ok (.ireturn, 1) := by decide +kernel
theorem dX11_headword_86 : decode cX11_headword 86 = .ok (.aload_n 3, 1) := by decide +kernel
theorem dX11_headword_87 : decode cX11_headword 87 = .ok (.iload_n 1, 1) := by decide +kernel
theorem dX11_headword_88 : decode cX11_headword 88 = .ok (.aload_n 0, 1) := by decide +kernel
theorem dX11_headword_89 : decode cX11_headword 89 = .ok (.getfield 19, 3) := by decide +kernel
theorem dX11_headword_92 : decode cX11_headword 92 = .ok (.invokevirtual 81, 3) := by decide +kernel
theorem dX11_headword_95 : decode cX11_headword 95 = .ok (.invokevirtual 249, 3) := by decide +kernel
theorem dX11_headword_98 : decode cX11_headword 98 = .ok (.ireturn, 1) := by decide +kernel
theorem dX11_headword_99 : decode cX11_headword 99 = .ok (.aload_n 0, 1) := by decide +kernel
theorem dX11_headword_100 : decode cX11_headword 100 = .ok (.iload_n 1, 1) := by decide +kernel
theorem dX11_headword_101 : decode cX11_headword 101 = .ok (.invokevirtual 253, 3) := by decide +kernel
theorem dX11_headword_104 : decode cX11_headword 104 = .ok (.ireturn, 1) := by decide +kernel
theorem dX11_headword_105 : decode cX11_headword 105 = .ok (.aload_n 0, 1) := by decide +kernel
theorem dX11_headword_106 : decode cX11_headword 106 = .ok (.iload_n 1, 1) := by decide +kernel
theorem dX11_headword_107 : decode cX11_headword 107 = .ok (.invokevirtual 181, 3) := by decide +kernel
theorem dX11_headword_110 : decode cX11_headword 110 = .ok (.invokevirtual 190, 3) := by decide +kernel
theorem dX11_headword_113 : decode cX11_headword 113 = .ok (.invokestatic 194, 3) := by decide +kernel
theorem dX11_headword_116 : decode cX11_headword 116 = .ok (.ireturn, 1) := by decide +kernel
theorem dX11_headword_117 : decode cX11_headword 117 = .ok (.new 95, 3) := by decide +kernel
theorem dX11_headword_120 : decode cX11_headword 120 = .ok (.dup, 1) := by decide +kernel
theorem dX11_headword_121 : decode cX11_headword 121 = .ok (.ldc_w 256, 3) := by decide +kernel
theorem dX11_headword_124 : decode cX11_headword 124 = .ok (.invokespecial 99, 3) := by decide +kernel
theorem dX11_headword_127 : decode cX11_headword 127 = .ok (.athrow, 1) := by decide +kernel
set_option maxRecDepth 20000 in
theorem ggX11_letterOf_X11_requireHeadword : GoodIn wsX11_letterOf wsX11_requireHeadword := goodIn_ca (goodIn_r _ [5, 6, 7, 8, 9, 10, 11, 12, 13, 14, 15, 16, 17, 18, 19, 20, 70, 71, 72, 73, 74, 75, 76, 77, 78, 79, 80, 81, 82, 83] (by decide +kernel) (by decide +kernel)) (goodIn_sub (fun _ h => List.mem_cons_of_mem _ (List.mem_append_left _ (List.mem_append_left _ (List.mem_append_right _ h)))) (by decide +kernel))
set_option maxRecDepth 20000 in
theorem gX11_letterOf_X11_requireHeadword : GoodIn wsX11_letterOf (wsV RX11 172 RX11 yX11_requireHeadword wsX11_requireHeadword) := goodIn_app (goodIn_of _ (by decide +kernel)) ggX11_letterOf_X11_requireHeadword
theorem dX11_letterOf_0 : decode cX11_letterOf 0 = .ok (.aload_n 0, 1) := by decide +kernel
theorem dX11_letterOf_1 : decode cX11_letterOf 1 = .ok (.iload_n 1, 1) := by decide +kernel
theorem dX11_letterOf_2 : decode cX11_letterOf 2 = .ok (.invokevirtual 172, 3) := by decide +kernel
theorem dX11_letterOf_5 : decode cX11_letterOf 5 = .ok (.aload_n 0, 1) := by decide +kernel
theorem dX11_letterOf_6 : decode cX11_letterOf 6 = .ok (.iload_n 1, 1) := by decide +kernel
theorem dX11_letterOf_7 : decode cX11_letterOf 7 = .ok (.iload_n 2, 1) := by decide +kernel
theorem dX11_letterOf_8 : decode cX11_letterOf 8 = .ok (.invokevirtual 258, 3) := by decide +kernel
theorem dX11_letterOf_11 : decode cX11_letterOf 11 = .ok (.aload_n 0, 1) := by decide +kernel
theorem dX11_letterOf_12 : decode cX11_letterOf 12 = .ok (.aload_n 0, 1) := by decide +kernel
theorem dX11_letterOf_13 : decode cX11_letterOf 13 = .ok (.iload_n 1, 1) := by decide +kernel
theorem dX11_letterOf_14 : decode cX11_letterOf 14 = .ok (.invokevirtual 181, 3) := by decide +kernel
theorem dX11_letterOf_17 : decode cX11_letterOf 17 = .ok (.iload_n 2, 1) := by decide +kernel
theorem dX11_letterOf_18 : decode cX11_letterOf 18 = .ok (.invokevirtual 261, 3) := by decide +kernel
theorem dX11_letterOf_21 : decode cX11_letterOf 21 = .ok (.iload_n 3, 1) := by decide +kernel
theorem dX11_letterOf_22 : decode cX11_letterOf 22 = .ok (.invokevirtual 265, 3) := by decide +kernel
theorem dX11_letterOf_25 : decode cX11_letterOf 25 = .ok (.ireturn, 1) := by decide +kernel
set_option maxRecDepth 20000 in
theorem ggX11_ordered_X3_lexicon : GoodIn wsX11_ordered wsX3_lexicon := goodIn_r _ [8, 9, 65, 66, 67] (by decide +kernel) (by decide +kernel)
set_option maxRecDepth 20000 in
theorem gX11_ordered_X3_lexicon : GoodIn wsX11_ordered (wsV RX11 153 RX3 yX3_lexicon wsX3_lexicon) := goodIn_app (goodIn_of _ (by decide +kernel)) ggX11_ordered_X3_lexicon
set_option maxRecDepth 20000 in
theorem ggX11_ordered_X3_alphabet : GoodIn wsX11_ordered wsX3_alphabet := goodIn_r _ [13, 14, 65, 66, 67] (by decide +kernel) (by decide +kernel)
set_option maxRecDepth 20000 in
theorem gX11_ordered_X3_alphabet : GoodIn wsX11_ordered (wsV RX11 81 RX3 yX3_alphabet wsX3_alphabet) := goodIn_app (goodIn_of _ (by decide +kernel)) ggX11_ordered_X3_alphabet
set_option maxRecDepth 20000 in
theorem ggX11_ordered_X8_atPlaceInOrder : GoodIn wsX11_ordered wsX8_atPlaceInOrder := goodIn_ca (goodIn_r _ [19, 20, 21, 22, 23, 18, 24, 25, 26, 27, 28, 29, 30, 31, 32, 33, 34, 35, 36, 37, 38, 39, 40, 41, 42, 43, 44, 45, 46, 47, 48, 49, 50, 51, 52, 53, 54, 55, 68, 69, 70, 71, 72, 73, 74, 75, 76] (by decide +kernel) (by decide +kernel)) (goodIn_sub (fun _ h => List.mem_cons_of_mem _ (List.mem_append_right _ h)) (by decide +kernel))
set_option maxRecDepth 20000 in
theorem gX11_ordered_X8_atPlaceInOrder : GoodIn wsX11_ordered (wsV RX11 269 RX8 yX8_atPlaceInOrder wsX8_atPlaceInOrder) := goodIn_app (goodIn_of _ (by decide +kernel)) ggX11_ordered_X8_atPlaceInOrder
theorem dX11_ordered_0 : decode cX11_ordered 0 = .ok (.aload_n 0, 1) := by decide +kernel
theorem dX11_ordered_1 : decode cX11_ordered 1 = .ok (.getfield 19, 3) := by decide +kernel
theorem dX11_ordered_4 : decode cX11_ordered 4 = .ok (.invokevirtual 153, 3) := by decide +kernel
theorem dX11_ordered_7 : decode cX11_ordered 7 = .ok (.iload_n 1, 1) := by decide +kernel
theorem dX11_ordered_8 : decode cX11_ordered 8 = .ok (.aload_n 0, 1) := by decide +kernel
theorem dX11_ordered_9 : decode cX11_ordered 9 = .ok (.getfield 19, 3) := by decide +kernel
theorem dX11_ordered_12 : decode cX11_ordered 12 = .ok (.invokevirtual 81, 3) := by decide +kernel
theorem dX11_ordered_15 : decode cX11_ordered 15 = .ok (.invokevirtual 269, 3) := by decide +kernel
theorem dX11_ordered_18 : decode cX11_ordered 18 = .ok (.istore_n 2, 1) := by decide +kernel
theorem dX11_ordered_19 : decode cX11_ordered 19 = .ok (.iload_n 2, 1) := by decide +kernel
theorem dX11_ordered_20 : decode cX11_ordered 20 = .ok (.iconst (-1), 1) := by decide +kernel
theorem dX11_ordered_21 : decode cX11_ordered 21 = .ok (.if_icmp .ne 14, 3) := by decide +kernel
theorem dX11_ordered_24 : decode cX11_ordered 24 = .ok (.new 235, 3) := by decide +kernel
theorem dX11_ordered_27 : decode cX11_ordered 27 = .ok (.dup, 1) := by decide +kernel
theorem dX11_ordered_28 : decode cX11_ordered 28 = .ok (.ldc_w 272, 3) := by decide +kernel
theorem dX11_ordered_31 : decode cX11_ordered 31 = .ok (.invokespecial 239, 3) := by decide +kernel
theorem dX11_ordered_34 : decode cX11_ordered 34 = .ok (.athrow, 1) := by decide +kernel
theorem dX11_ordered_35 : decode cX11_ordered 35 = .ok (.iload_n 2, 1) := by decide +kernel
theorem dX11_ordered_36 : decode cX11_ordered 36 = .ok (.ireturn, 1) := by decide +kernel
set_option maxRecDepth 20000 in
theorem ggX11_compare_X11_requireHeadword : GoodIn wsX11_compare wsX11_requireHeadword := goodIn_ca (goodIn_r _ [6, 7, 8, 1, 9, 10, 11, 12, 13, 14, 15, 16, 17, 18, 19, 20, 70, 71, 72, 73, 74, 75, 76, 77, 78, 79, 80, 81, 82, 83] (by decide +kernel) (by decide +kernel)) (goodIn_sub (fun _ h => List.mem_cons_of_mem _ (List.mem_append_left _ (List.mem_append_left _ (List.mem_append_right _ h)))) (by decide +kernel))
set_option maxRecDepth 20000 in
theorem gX11_compare_X11_requireHeadword : GoodIn wsX11_compare (wsV RX11 172 RX11 yX11_requireHeadword wsX11_requireHeadword) := goodIn_app (goodIn_of _ (by decide +kernel)) ggX11_compare_X11_requireHeadword
set_option maxRecDepth 20000 in
theorem ggX11_compare_X3_alphabet : GoodIn wsX11_compare wsX3_alphabet := goodIn_r _ [46, 47, 79, 80, 81] (by decide +kernel) (by decide +kernel)
set_option maxRecDepth 20000 in
theorem gX11_compare_X3_alphabet : GoodIn wsX11_compare (wsV RX11 81 RX3 yX3_alphabet wsX3_alphabet) := goodIn_app (goodIn_of _ (by decide +kernel)) ggX11_compare_X3_alphabet
theorem dX11_compare_0 : decode cX11_compare 0 = .ok (.aload_n 0, 1) := by decide +kernel
theorem dX11_compare_1 : decode cX11_compare 1 = .ok (.iload_n 1, 1) := by decide +kernel
theorem dX11_compare_2 : decode cX11_compare 2 = .ok (.invokevirtual 172, 3) := by decide +kernel
theorem dX11_compare_5 : decode cX11_compare 5 = .ok (.aload_n 0, 1) := by decide +kernel
theorem dX11_compare_6 : decode cX11_compare 6 = .ok (.iload_n 3, 1) := by decide +kernel
theorem dX11_compare_7 : decode cX11_compare 7 = .ok (.invokevirtual 172, 3) := by decide +kernel
theorem dX11_compare_10 : decode cX11_compare 10 = .ok (.aload_n 0, 1) := by decide +kernel
theorem dX11_compare_11 : decode cX11_compare 11 = .ok (.iload_n 1, 1) := by decide +kernel
theorem dX11_compare_12 : decode cX11_compare 12 = .ok (.iload_n 2, 1) := by decide +kernel
theorem dX11_compare_13 : decode cX11_compare 13 = .ok (.invokevirtual 258, 3) := by decide +kernel
theorem dX11_compare_16 : decode cX11_compare 16 = .ok (.aload_n 0, 1) := by decide +kernel
theorem dX11_compare_17 : decode cX11_compare 17 = .ok (.iload_n 3, 1) := by decide +kernel
theorem dX11_compare_18 : decode cX11_compare 18 = .ok (.iload 4, 2) := by decide +kernel
theorem dX11_compare_20 : decode cX11_compare 20 = .ok (.invokevirtual 258, 3) := by decide +kernel
theorem dX11_compare_23 : decode cX11_compare 23 = .ok (.aload_n 0, 1) := by decide +kernel
theorem dX11_compare_24 : decode cX11_compare 24 = .ok (.getfield 19, 3) := by decide +kernel
theorem dX11_compare_27 : decode cX11_compare 27 = .ok (.invokevirtual 81, 3) := by decide +kernel
theorem dX11_compare_30 : decode cX11_compare 30 = .ok (.aload_n 0, 1) := by decide +kernel
theorem dX11_compare_31 : decode cX11_compare 31 = .ok (.iload_n 1, 1) := by decide +kernel
theorem dX11_compare_32 : decode cX11_compare 32 = .ok (.invokevirtual 181, 3) := by decide +kernel
theorem dX11_compare_35 : decode cX11_compare 35 = .ok (.iload_n 2, 1) := by decide +kernel
theorem dX11_compare_36 : decode cX11_compare 36 = .ok (.invokevirtual 261, 3) := by decide +kernel
theorem dX11_compare_39 : decode cX11_compare 39 = .ok (.aload_n 0, 1) := by decide +kernel
theorem dX11_compare_40 : decode cX11_compare 40 = .ok (.iload_n 3, 1) := by decide +kernel
theorem dX11_compare_41 : decode cX11_compare 41 = .ok (.invokevirtual 181, 3) := by decide +kernel
theorem dX11_compare_44 : decode cX11_compare 44 = .ok (.iload 4, 2) := by decide +kernel
theorem dX11_compare_46 : decode cX11_compare 46 = .ok (.invokevirtual 261, 3) := by decide +kernel
theorem dX11_compare_49 : decode cX11_compare 49 = .ok (.invokevirtual 274, 3) := by decide +kernel
theorem dX11_compare_52 : decode cX11_compare 52 = .ok (.ireturn, 1) := by decide +kernel
set_option maxRecDepth 20000 in
theorem ggX11_refer_X11_requireHeadword : GoodIn wsX11_refer wsX11_requireHeadword := goodIn_ca (goodIn_r _ [10, 11, 12, 4, 13, 14, 15, 16, 17, 18, 19, 20, 21, 22, 23, 24, 124, 125, 126, 127, 128, 129, 130, 131, 132, 133, 134, 135, 136, 137] (by decide +kernel) (by decide +kernel)) (goodIn_sub (fun _ h => List.mem_cons_of_mem _ (List.mem_append_left _ (List.mem_append_right _ h))) (by decide +kernel))
set_option maxRecDepth 20000 in
theorem gX11_refer_X11_requireHeadword : GoodIn wsX11_refer (wsV RX11 172 RX11 yX11_requireHeadword wsX11_requireHeadword) := goodIn_app (goodIn_of _ (by decide +kernel)) ggX11_refer_X11_requireHeadword
set_option maxRecDepth 20000 in
theorem ggX11_refer_X6_prepare : GoodIn wsX11_refer wsX6_prepare := goodIn_r _ [29, 30, 31, 32, 33, 34, 16, 35, 36, 18, 37, 38, 39, 40, 41, 42, 43, 44, 45, 46, 47, 48, 49, 50, 51, 52, 53, 22, 54, 24, 55, 56, 57, 58, 59, 60, 61, 62, 63, 64, 65, 66, 67, 68, 69, 70, 71, 72, 73, 74, 75, 138, 139, 140, 133, 134, 135, 141, 142, 143, 144, 136, 137, 145, 146, 147, 148, 149, 150, 151, 152] (by decide +kernel) (by decide +kernel)
set_option maxRecDepth 20000 in
theorem gX11_refer_X6_prepare : GoodIn wsX11_refer (wsV RX11 149 RX6 yX6_prepare wsX6_prepare) := goodIn_app (goodIn_of _ (by decide +kernel)) ggX11_refer_X6_prepare
set_option maxRecDepth 20000 in
theorem ggX11_refer_X3_lexicon : GoodIn wsX11_refer wsX3_lexicon := goodIn_r _ [17, 18, 133, 134, 135] (by decide +kernel) (by decide +kernel)
set_option maxRecDepth 20000 in
theorem gX11_refer_X3_lexicon : GoodIn wsX11_refer (wsV RX11 153 RX3 yX3_lexicon wsX3_lexicon) := goodIn_app (goodIn_of _ (by decide +kernel)) ggX11_refer_X3_lexicon
set_option maxRecDepth 20000 in
theorem ggX11_refer_X6_keep : GoodIn wsX11_refer wsX6_keep := goodIn_r _ [118, 31, 119, 120, 121, 122, 123, 138, 139, 140] (by decide +kernel) (by decide +kernel)
set_option maxRecDepth 20000 in
theorem gX11_refer_X6_keep : GoodIn wsX11_refer (wsV RX11 168 RX6 yX6_keep wsX6_keep) := goodIn_app (goodIn_of _ (by decide +kernel)) ggX11_refer_X6_keep
theorem dX11_refer_0 : decode cX11_refer 0 = .ok (.aload_n 0, 1) := by decide +kernel
theorem dX11_refer_1 : decode cX11_refer 1 = .ok (.iload_n 1, 1) := by decide +kernel
theorem dX11_refer_2 : decode cX11_refer 2 = .ok (.invokevirtual 172, 3) := by decide +kernel
theorem dX11_refer_5 : decode cX11_refer 5 = .ok (.iload_n 2, 1) := by decide +kernel
theorem dX11_refer_6 : decode cX11_refer 6 = .ok (.iconst (-1), 1) := by decide +kernel
theorem dX11_refer_7 : decode cX11_refer 7 = .ok (.if_icmp .eq 8, 3) := by decide +kernel
theorem dX11_refer_10 : decode cX11_refer 10 = .ok (.aload_n 0, 1) := by decide +kernel
theorem dX11_refer_11 : decode cX11_refer 11 = .ok (.iload_n 2, 1) := by decide +kernel
theorem dX11_refer_12 : decode cX11_refer 12 = .ok (.invokevirtual 172, 3) := by decide +kernel
theorem dX11_refer_15 : decode cX11_refer 15 = .ok (.aload_n 0, 1) := by decide +kernel
theorem dX11_refer_16 : decode cX11_refer 16 = .ok (.getfield 29, 3) := by decide +kernel
theorem dX11_refer_19 : decode cX11_refer 19 = .ok (.aload_n 0, 1) := by decide +kernel
theorem dX11_refer_20 : decode cX11_refer 20 = .ok (.getfield 19, 3) := by decide +kernel
theorem dX11_refer_23 : decode cX11_refer 23 = .ok (.invokevirtual 149, 3) := by decide +kernel
theorem dX11_refer_26 : decode cX11_refer 26 = .ok (.aload_n 0, 1) := by decide +kernel
theorem dX11_refer_27 : decode cX11_refer 27 = .ok (.iload_n 1, 1) := by decide +kernel
theorem dX11_refer_28 : decode cX11_refer 28 = .ok (.invokevirtual 181, 3) := by decide +kernel
theorem dX11_refer_31 : decode cX11_refer 31 = .ok (.invokevirtual 240, 3) := by decide +kernel
theorem dX11_refer_34 : decode cX11_refer 34 = .ok (.istore_n 3, 1) := by decide +kernel
theorem dX11_refer_35 : decode cX11_refer 35 = .ok (.aload_n 0, 1) := by decide +kernel
theorem dX11_refer_36 : decode cX11_refer 36 = .ok (.getfield 19, 3) := by decide +kernel
theorem dX11_refer_39 : decode cX11_refer 39 = .ok (.invokevirtual 153, 3) := by decide +kernel
theorem dX11_refer_42 : decode cX11_refer 42 = .ok (.iload_n 1, 1) := by decide +kernel
theorem dX11_refer_43 : decode cX11_refer 43 = .ok (.iload_n 2, 1) := by decide +kernel
theorem dX11_refer_44 : decode cX11_refer 44 = .ok (.aload_n 0, 1) := by decide +kernel
theorem dX11_refer_45 : decode cX11_refer 45 = .ok (.getfield 36, 3) := by decide +kernel
theorem dX11_refer_48 : decode cX11_refer 48 = .ok (.invokevirtual 278, 3) := by decide +kernel
theorem dX11_refer_51 : decode cX11_refer 51 = .ok (.ifCond .eq 14, 3) := by decide +kernel
theorem dX11_refer_54 : decode cX11_refer 54 = .ok (.new 163, 3) := by decide +kernel
theorem dX11_refer_57 : decode cX11_refer 57 = .ok (.dup, 1) := by decide +kernel
theorem dX11_refer_58 : decode cX11_refer 58 = .ok (.ldc_w 281, 3) := by decide +kernel
theorem dX11_refer_61 : decode cX11_refer 61 = .ok (.invokespecial 167, 3) := by decide +kernel
theorem dX11_refer_64 : decode cX11_refer 64 = .ok (.athrow, 1) := by decide +kernel
theorem dX11_refer_65 : decode cX11_refer 65 = .ok (.aload_n 0, 1) := by decide +kernel
theorem dX11_refer_66 : decode cX11_refer 66 = .ok (.getfield 29, 3) := by decide +kernel
theorem dX11_refer_69 : decode cX11_refer 69 = .ok (.invokevirtual 168, 3) := by decide +kernel
theorem dX11_refer_72 : decode cX11_refer 72 = .ok (.iload_n 3, 1) := by decide +kernel
theorem dX11_refer_73 : decode cX11_refer 73 = .ok (.ireturn, 1) := by decide +kernel
set_option maxRecDepth 20000 in
theorem ggX11_steps_X11_requireHeadword : GoodIn wsX11_steps wsX11_requireHeadword := goodIn_ca (goodIn_r _ [8, 9, 10, 3, 11, 12, 13, 14, 15, 16, 17, 18, 19, 20, 21, 22, 39, 40, 41, 42, 43, 44, 45, 46, 47, 48, 49, 50, 51, 52] (by decide +kernel) (by decide +kernel)) (goodIn_sub (fun _ h => List.mem_cons_of_mem _ (List.mem_append_right _ h)) (by decide +kernel))
set_option maxRecDepth 20000 in
theorem gX11_steps_X11_requireHeadword : GoodIn wsX11_steps (wsV RX11 172 RX11 yX11_requireHeadword wsX11_requireHeadword) := goodIn_app (goodIn_of _ (by decide +kernel)) ggX11_steps_X11_requireHeadword
set_option maxRecDepth 20000 in
theorem ggX11_steps_X3_lexicon : GoodIn wsX11_steps wsX3_lexicon := goodIn_r _ [15, 16, 48, 49, 50] (by decide +kernel) (by decide +kernel)
set_option maxRecDepth 20000 in
theorem gX11_steps_X3_lexicon : GoodIn wsX11_steps (wsV RX11 153 RX3 yX3_lexicon wsX3_lexicon) := goodIn_app (goodIn_of _ (by decide +kernel)) ggX11_steps_X3_lexicon
theorem dX11_steps_0 : decode cX11_steps 0 = .ok (.aload_n 0, 1) := by decide +kernel
theorem dX11_steps_1 : decode cX11_steps 1 = .ok (.iload_n 1, 1) := by decide +kernel
theorem dX11_steps_2 : decode cX11_steps 2 = .ok (.invokevirtual 172, 3) := by decide +kernel
theorem dX11_steps_5 : decode cX11_steps 5 = .ok (.aload_n 0, 1) := by decide +kernel
theorem dX11_steps_6 : decode cX11_steps 6 = .ok (.iload_n 2, 1) := by decide +kernel
theorem dX11_steps_7 : decode cX11_steps 7 = .ok (.invokevirtual 172, 3) := by decide +kernel
theorem dX11_steps_10 : decode cX11_steps 10 = .ok (.aload_n 0, 1) := by decide +kernel
theorem dX11_steps_11 : decode cX11_steps 11 = .ok (.getfield 19, 3) := by decide +kernel
theorem dX11_steps_14 : decode cX11_steps 14 = .ok (.invokevirtual 153, 3) := by decide +kernel
theorem dX11_steps_17 : decode cX11_steps 17 = .ok (.iload_n 1, 1) := by decide +kernel
theorem dX11_steps_18 : decode cX11_steps 18 = .ok (.iload_n 2, 1) := by decide +kernel
theorem dX11_steps_19 : decode cX11_steps 19 = .ok (.invokevirtual 283, 3) := by decide +kernel
theorem dX11_steps_22 : decode cX11_steps 22 = .ok (.istore_n 3, 1) := by decide +kernel
theorem dX11_steps_23 : decode cX11_steps 23 = .ok (.iload_n 3, 1) := by decide +kernel
theorem dX11_steps_24 : decode cX11_steps 24 = .ok (.iconst (-1), 1) := by decide +kernel
theorem dX11_steps_25 : decode cX11_steps 25 = .ok (.if_icmp .ne 14, 3) := by decide +kernel
theorem dX11_steps_28 : decode cX11_steps 28 = .ok (.new 235, 3) := by decide +kernel
theorem dX11_steps_31 : decode cX11_steps 31 = .ok (.dup, 1) := by decide +kernel
theorem dX11_steps_32 : decode cX11_steps 32 = .ok (.ldc_w 287, 3) := by decide +kernel
theorem dX11_steps_35 : decode cX11_steps 35 = .ok (.invokespecial 239, 3) := by decide +kernel
theorem dX11_steps_38 : decode cX11_steps 38 = .ok (.athrow, 1) := by decide +kernel
theorem dX11_steps_39 : decode cX11_steps 39 = .ok (.iload_n 3, 1) := by decide +kernel
theorem dX11_steps_40 : decode cX11_steps 40 = .ok (.ireturn, 1) := by decide +kernel
set_option maxRecDepth 20000 in
theorem ggX11_addRule_X11_requirePlace : GoodIn wsX11_addRule wsX11_requirePlace := goodIn_ca (goodIn_r _ [10, 11, 12, 5, 13, 14, 15, 16, 17, 18, 19, 20, 21, 22, 23, 24, 115, 116, 117, 118, 119, 120, 121, 122, 123, 124, 125, 126, 127, 128, 129, 130] (by decide +kernel) (by decide +kernel)) (goodIn_sub (fun _ h => List.mem_cons_of_mem _ (List.mem_append_left _ (List.mem_append_right _ h))) (by decide +kernel))
set_option maxRecDepth 20000 in
theorem gX11_addRule_X11_requirePlace : GoodIn wsX11_addRule (wsV RX11 118 RX11 yX11_requirePlace wsX11_requirePlace) := goodIn_app (goodIn_of _ (by decide +kernel)) ggX11_addRule_X11_requirePlace
set_option maxRecDepth 20000 in
theorem ggX11_addRule_X10_isCondition : GoodIn wsX11_addRule wsX10_isCondition := goodIn_r _ [28] (by decide +kernel) (by decide +kernel)
set_option maxRecDepth 20000 in
theorem gX11_addRule_X10_isCondition : GoodIn wsX11_addRule (va_wsS RX11 289 yX10_isCondition wsX10_isCondition) := goodIn_app (goodIn_of _ (by decide +kernel)) ggX11_addRule_X10_isCondition
set_option maxRecDepth 20000 in
theorem ggX11_addRule_X3_rules : GoodIn wsX11_addRule wsX3_rules := goodIn_r _ [32, 33, 124, 125, 126] (by decide +kernel) (by decide +kernel)
set_option maxRecDepth 20000 in
theorem gX11_addRule_X3_rules : GoodIn wsX11_addRule (wsV RX11 297 RX3 yX3_rules wsX3_rules) := goodIn_app (goodIn_of _ (by decide +kernel)) ggX11_addRule_X3_rules
set_option maxRecDepth 20000 in
theorem ggX11_addRule_X10_isFull : GoodIn wsX11_addRule wsX10_isFull := goodIn_r _ [37, 38, 131, 132, 133, 134, 135] (by decide +kernel) (by decide +kernel)
set_option maxRecDepth 20000 in
theorem gX11_addRule_X10_isFull : GoodIn wsX11_addRule (wsV RX11 301 RX10 yX10_isFull wsX10_isFull) := goodIn_app (goodIn_of _ (by decide +kernel)) ggX11_addRule_X10_isFull
set_option maxRecDepth 20000 in
theorem ggX11_addRule_X11_remember : GoodIn wsX11_addRule wsX11_remember := goodIn_r _ [42, 43, 5, 44, 45, 46, 47, 48, 49, 50, 51, 52, 53, 16, 54, 18, 55, 33, 56, 57, 58, 22, 59, 60, 61, 62, 63, 64, 65, 66, 24, 67, 68, 69, 70, 71, 72, 73, 74, 75, 76, 77, 78, 79, 80, 81, 82, 83, 84, 85, 27, 86, 87, 88, 89, 90, 91, 38, 92, 93, 94, 95, 96, 97, 98, 99, 100, 115, 116, 117, 118, 119, 120, 121, 122, 123, 136, 137, 138, 124, 125, 126, 127, 128, 129, 130, 139, 140, 141, 142, 143, 131, 132, 133, 134, 135] (by decide +kernel) (by decide +kernel)
set_option maxRecDepth 20000 in
theorem gX11_addRule_X11_remember : GoodIn wsX11_addRule (wsV RX11 111 RX11 yX11_remember wsX11_remember) := goodIn_app (goodIn_of _ (by decide +kernel)) ggX11_addRule_X11_remember
set_option maxRecDepth 20000 in
theorem ggX11_addRule_X3_alphabet : GoodIn wsX11_addRule wsX3_alphabet := goodIn_r _ [17, 18, 124, 125, 126] (by decide +kernel) (by decide +kernel)
set_option maxRecDepth 20000 in
theorem gX11_addRule_X3_alphabet : GoodIn wsX11_addRule (wsV RX11 81 RX3 yX3_alphabet wsX3_alphabet) := goodIn_app (goodIn_of _ (by decide +kernel)) ggX11_addRule_X3_alphabet
set_option maxRecDepth 20000 in
theorem ggX11_addRule_X0_letterAt : GoodIn wsX11_addRule wsX0_letterAt := goodIn_ca (goodIn_r _ [104, 60, 105, 20, 21, 22, 23, 24, 127, 128, 129, 130] (by decide +kernel) (by decide +kernel)) (goodIn_sub (fun _ h => List.mem_cons_of_mem _ (List.mem_append_right _ h)) (by decide +kernel))
set_option maxRecDepth 20000 in
theorem gX11_addRule_X0_letterAt : GoodIn wsX11_addRule (wsV RX11 132 RX0 yX0_letterAt wsX0_letterAt) := goodIn_app (goodIn_of _ (by decide +kernel)) ggX11_addRule_X0_letterAt
set_option maxRecDepth 20000 in
theorem ggX11_addRule_X10_append : GoodIn wsX11_addRule wsX10_append := goodIn_ca (goodIn_r _ [109, 87, 38, 89, 90, 91, 110, 35, 36, 27, 37, 131, 132, 133, 134, 135] (by decide +kernel) (by decide +kernel)) (goodIn_sub (fun _ h => List.mem_cons_of_mem _ (List.mem_append_right _ h)) (by decide +kernel))
set_option maxRecDepth 20000 in
theorem gX11_addRule_X10_append : GoodIn wsX11_addRule (wsV RX11 304 RX10 yX10_append wsX10_append) := goodIn_app (goodIn_of _ (by decide +kernel)) ggX11_addRule_X10_append
set_option maxRecDepth 20000 in
theorem ggX11_addRule_X10_count : GoodIn wsX11_addRule wsX10_count := goodIn_r _ [114, 38, 131, 132, 133, 134, 135] (by decide +kernel) (by decide +kernel)
set_option maxRecDepth 20000 in
theorem gX11_addRule_X10_count : GoodIn wsX11_addRule (wsV RX11 308 RX10 yX10_count wsX10_count) := goodIn_app (goodIn_of _ (by decide +kernel)) ggX11_addRule_X10_count
theorem dX11_addRule_0 : decode cX11_addRule 0 = .ok (.aload_n 0, 1) := by decide +kernel
theorem dX11_addRule_1 : decode cX11_addRule 1 = .ok (.iload_n 1, 1) := by decide +kernel
theorem dX11_addRule_2 : decode cX11_addRule 2 = .ok (.invokevirtual 118, 3) := by decide +kernel
theorem dX11_addRule_5 : decode cX11_addRule 5 = .ok (.iload_n 2, 1) := by decide +kernel
theorem dX11_addRule_6 : decode cX11_addRule 6 = .ok (.iconst (-1), 1) := by decide +kernel
theorem dX11_addRule_7 : decode cX11_addRule 7 = .ok (.if_icmp .eq 8, 3) := by decide +kernel
theorem dX11_addRule_10 : decode cX11_addRule 10 = .ok (.aload_n 0, 1) := by decide +kernel
theorem dX11_addRule_11 : decode cX11_addRule 11 = .ok (.iload_n 2, 1) := by decide +kernel
theorem dX11_addRule_12 : decode cX11_addRule 12 = .ok (.invokevirtual 118, 3) := by decide +kernel
theorem dX11_addRule_15 : decode cX11_addRule 15 = .ok (.iload_n 3, 1) := by decide +kernel
theorem dX11_addRule_16 : decode cX11_addRule 16 = .ok (.invokestatic 289, 3) := by decide +kernel
theorem dX11_addRule_19 : decode cX11_addRule 19 = .ok (.ifCond .eq 11, 3) := by decide +kernel
theorem dX11_addRule_22 : decode cX11_addRule 22 = .ok (.iload 4, 2) := by decide +kernel
theorem dX11_addRule_24 : decode cX11_addRule 24 = .ok (.invokestatic 289, 3) := by decide +kernel
theorem dX11_addRule_27 : decode cX11_addRule 27 = .ok (.ifCond .ne 14, 3) := by decide +kernel
theorem dX11_addRule_30 : decode cX11_addRule 30 = .ok (.new 95, 3) := by decide +kernel
theorem dX11_addRule_33 : decode cX11_addRule 33 = .ok (.dup, 1) := by decide +kernel
theorem dX11_addRule_34 : decode cX11_addRule 34 = .ok (.ldc_w 295, 3) := by decide +kernel
theorem dX11_addRule_37 : decode cX11_addRule 37 = .ok (.invokespecial 99, 3) := by decide +kernel
theorem dX11_addRule_40 : decode cX11_addRule 40 = .ok (.athrow, 1) := by decide +kernel
theorem dX11_addRule_41 : decode cX11_addRule 41 = .ok (.aload_n 0, 1) := by decide +kernel
theorem dX11_addRule_42 : decode cX11_addRule 42 = .ok (.getfield 19, 3) := by decide +kernel
theorem dX11_addRule_45 : decode cX11_addRule 45 = .ok (.invokevirtual 297, 3) := by decide +kernel
theorem dX11_addRule_48 : decode cX11_addRule 48 = .ok (.invokevirtual 301, 3) := by decide +kernel
theorem dX11_addRule_51 : decode cX11_addRule 51 = .ok (.ifCond .eq 14, 3) := by decide +kernel
theorem dX11_addRule_54 : decode cX11_addRule 54 = .ok (.new 66, 3) := by decide +kernel
theorem dX11_addRule_57 : decode cX11_addRule 57 = .ok (.dup, 1) := by decide +kernel
theorem dX11_addRule_58 : decode cX11_addRule 58 = .ok (.ldc_w 302, 3) := by decide +kernel
theorem dX11_addRule_61 : decode cX11_addRule 61 = .ok (.invokespecial 70, 3) := by decide +kernel
theorem dX11_addRule_64 : decode cX11_addRule 64 = .ok (.athrow, 1) := by decide +kernel
theorem dX11_addRule_65 : decode cX11_addRule 65 = .ok (.aload_n 0, 1) := by decide +kernel
theorem dX11_addRule_66 : decode cX11_addRule 66 = .ok (.invokevirtual 111, 3) := by decide +kernel
theorem dX11_addRule_69 : decode cX11_addRule 69 = .ok (.aload_n 0, 1) := by decide +kernel
theorem dX11_addRule_70 : decode cX11_addRule 70 = .ok (.getfield 19, 3) := by decide +kernel
theorem dX11_addRule_73 : decode cX11_addRule 73 = .ok (.invokevirtual 81, 3) := by decide +kernel
theorem dX11_addRule_76 : decode cX11_addRule 76 = .ok (.astore 5, 2) := by decide +kernel
theorem dX11_addRule_78 : decode cX11_addRule 78 = .ok (.iload_n 2, 1) := by decide +kernel
theorem dX11_addRule_79 : decode cX11_addRule 79 = .ok (.iconst (-1), 1) := by decide +kernel
theorem dX11_addRule_80 : decode cX11_addRule 80 = .ok (.if_icmp .ne 7, 3) := by decide +kernel
theorem dX11_addRule_83 : decode cX11_addRule 83 = .ok (.iconst (-1), 1) := by decide +kernel
theorem dX11_addRule_84 : decode cX11_addRule 84 = .ok (.goto 9, 3) := by decide +kernel
theorem dX11_addRule_87 : decode cX11_addRule 87 = .ok (.aload 5, 2) := by decide +kernel
theorem dX11_addRule_89 : decode cX11_addRule 89 = .ok (.iload_n 2, 1) := by decide +kernel
theorem dX11_addRule_90 : decode cX11_addRule 90 = .ok (.invokevirtual 132, 3) := by decide +kernel
theorem dX11_addRule_93 : decode cX11_addRule 93 = .ok (.istore 6, 2) := by decide +kernel
theorem dX11_addRule_95 : decode cX11_addRule 95 = .ok (.aload_n 0, 1) := by decide +kernel
theorem dX11_addRule_96 : decode cX11_addRule 96 = .ok (.getfield 19, 3) := by decide +kernel
theorem dX11_addRule_99 : decode cX11_addRule 99 = .ok (.invokevirtual 297, 3) := by decide +kernel
theorem dX11_addRule_102 : decode cX11_addRule 102 = .ok (.aload 5, 2) := by decide +kernel
theorem dX11_addRule_104 : decode cX11_addRule 104 = .ok (.iload_n 1, 1) := by decide +kernel
theorem dX11_addRule_105 : decode cX11_addRule 105 = .ok (.invokevirtual 132, 3) := by decide +kernel
theorem dX11_addRule_108 : decode cX11_addRule 108 = .ok (.iload 6, 2) := by decide +kernel
theorem dX11_addRule_110 : decode cX11_addRule 110 = .ok (.iload_n 3, 1) := by decide +kernel
theorem dX11_addRule_111 : decode cX11_addRule 111 = .ok (.iload 4, 2) := by decide +kernel
theorem dX11_addRule_113 : decode cX11_addRule 113 = .ok (.invokevirtual 304, 3) := by decide +kernel
theorem dX11_addRule_116 : decode cX11_addRule 116 = .ok (.aload_n 0, 1) := by decide +kernel
theorem dX11_addRule_117 : decode cX11_addRule 117 = .ok (.getfield 19, 3) := by decide +kernel
theorem dX11_addRule_120 : decode cX11_addRule 120 = .ok (.invokevirtual 297, 3) := by decide +kernel
theorem dX11_addRule_123 : decode cX11_addRule 123 = .ok (.invokevirtual 308, 3) := by decide +kernel
theorem dX11_addRule_126 : decode cX11_addRule 126 = .ok (.iconst 1, 1) := by decide +kernel
theorem dX11_addRule_127 : decode cX11_addRule 127 = .ok (.isub, 1) := by decide +kernel
theorem dX11_addRule_128 : decode cX11_addRule 128 = .ok (.ireturn, 1) := by decide +kernel
set_option maxRecDepth 20000 in
theorem ggX11_exchange_X11_requireRule : GoodIn wsX11_exchange wsX11_requireRule := goodIn_ca (goodIn_r _ [8, 9, 10, 1, 11, 12, 13, 14, 15, 16, 17, 18, 19, 20, 21, 22, 185, 186, 187, 188, 189, 190, 191, 192, 193, 194, 195, 196, 197, 198, 199, 200, 201] (by decide +kernel) (by decide +kernel)) (goodIn_sub (fun _ h => List.mem_cons_of_mem _ (List.mem_append_right _ h)) (by decide +kernel))
set_option maxRecDepth 20000 in
theorem gX11_exchange_X11_requireRule : GoodIn wsX11_exchange (wsV RX11 309 RX11 yX11_requireRule wsX11_requireRule) := goodIn_app (goodIn_of _ (by decide +kernel)) ggX11_exchange_X11_requireRule
set_option maxRecDepth 20000 in
theorem ggX11_exchange_X11_remember : GoodIn wsX11_exchange wsX11_remember := goodIn_r _ [26, 27, 1, 28, 29, 30, 31, 32, 33, 34, 35, 36, 37, 14, 38, 39, 40, 16, 41, 42, 43, 44, 45, 46, 47, 48, 49, 50, 51, 52, 53, 54, 55, 56, 57, 58, 59, 60, 61, 62, 63, 64, 65, 66, 67, 68, 69, 70, 71, 72, 20, 73, 74, 75, 76, 77, 78, 22, 79, 80, 81, 82, 83, 84, 85, 86, 87, 185, 186, 187, 188, 189, 190, 191, 192, 193, 202, 203, 204, 194, 195, 196, 205, 206, 207, 208, 209, 210, 211, 212, 213, 197, 198, 199, 200, 201] (by decide +kernel) (by decide +kernel)
set_option maxRecDepth 20000 in
theorem gX11_exchange_X11_remember : GoodIn wsX11_exchange (wsV RX11 111 RX11 yX11_remember wsX11_remember) := goodIn_app (goodIn_of _ (by decide +kernel)) ggX11_exchange_X11_remember
set_option maxRecDepth 20000 in
theorem ggX11_exchange_X3_lexicon : GoodIn wsX11_exchange wsX3_lexicon := goodIn_r _ [91, 40, 194, 195, 196] (by decide +kernel) (by decide +kernel)
set_option maxRecDepth 20000 in
theorem gX11_exchange_X3_lexicon : GoodIn wsX11_exchange (wsV RX11 153 RX3 yX3_lexicon wsX3_lexicon) := goodIn_app (goodIn_of _ (by decide +kernel)) ggX11_exchange_X3_lexicon
set_option maxRecDepth 20000 in
theorem ggX11_exchange_X8_count : GoodIn wsX11_exchange wsX8_count := goodIn_r _ [95, 59, 209, 210] (by decide +kernel) (by decide +kernel)
set_option maxRecDepth 20000 in
theorem gX11_exchange_X8_count : GoodIn wsX11_exchange (wsV RX11 171 RX8 yX8_count wsX8_count) := goodIn_app (goodIn_of _ (by decide +kernel)) ggX11_exchange_X8_count
set_option maxRecDepth 20000 in
theorem ggX11_exchange_X3_rules : GoodIn wsX11_exchange wsX3_rules := goodIn_r _ [15, 16, 194, 195, 196] (by decide +kernel) (by decide +kernel)
set_option maxRecDepth 20000 in
theorem gX11_exchange_X3_rules : GoodIn wsX11_exchange (wsV RX11 297 RX3 yX3_rules wsX3_rules) := goodIn_app (goodIn_of _ (by decide +kernel)) ggX11_exchange_X3_rules
theorem dX11_exchange_0 : decode cX11_exchange 0 = .ok (.aload_n 0, 1) := by decide +kernel
theorem dX11_exchange_1 : decode cX11_exchange 1 = .ok (.iload_n 1, 1) := by decide +kernel
theorem dX11_exchange_2 : decode cX11_exchange 2 = .ok (.invokevirtual 309, 3) := by decide +kernel
theorem dX11_exchange_5 : decode cX11_exchange 5 = .ok (.aload_n 0, 1) := by decide +kernel
theorem dX11_exchange_6 : decode cX11_exchange 6 = .ok (.iload_n 2, 1) := by decide +kernel
theorem dX11_exchange_7 : decode cX11_exchange 7 = .ok (.invokevirtual 309, 3) := by decide +kernel
theorem dX11_exchange_10 : decode cX11_exchange 10 = .ok (.aload_n 0, 1) := by decide +kernel
theorem dX11_exchange_11 : decode cX11_exchange 11 = .ok (.invokevirtual 111, 3) := by decide +kernel
theorem dX11_exchange_14 : decode cX11_exchange 14 = .ok (.aload_n 0, 1) := by decide +kernel
theorem dX11_exchange_15 : decode cX11_exchange 15 = .ok (.getfield 19, 3) := by decide +kernel
theorem dX11_exchange_18 : decode cX11_exchange 18 = .ok (.invokevirtual 153, 3) := by decide +kernel
theorem dX11_exchange_21 : decode cX11_exchange 21 = .ok (.invokevirtual 171, 3) := by decide +kernel
theorem dX11_exchange_24 : decode cX11_exchange 24 = .ok (.istore_n 3, 1) := by decide +kernel
theorem dX11_exchange_25 : decode cX11_exchange 25 = .ok (.iconst 0, 1) := by decide +kernel
theorem dX11_exchange_26 : decode cX11_exchange 26 = .ok (.istore 4, 2) := by decide +kernel
theorem dX11_exchange_28 : decode cX11_exchange 28 = .ok (.iload 4, 2) := by decide +kernel
theorem dX11_exchange_30 : decode cX11_exchange 30 = .ok (.iload_n 3, 1) := by decide +kernel
theorem dX11_exchange_31 : decode cX11_exchange 31 = .ok (.if_icmp .ge 36, 3) := by decide +kernel
theorem dX11_exchange_34 : decode cX11_exchange 34 = .ok (.aload_n 0, 1) := by decide +kernel
theorem dX11_exchange_35 : decode cX11_exchange 35 = .ok (.getfield 54, 3) := by decide +kernel
theorem dX11_exchange_38 : decode cX11_exchange 38 = .ok (.iload 4, 2) := by decide +kernel
theorem dX11_exchange_40 : decode cX11_exchange 40 = .ok (.aload_n 0, 1) := by decide +kernel
theorem dX11_exchange_41 : decode cX11_exchange 41 = .ok (.getfield 50, 3) := by decide +kernel
theorem dX11_exchange_44 : decode cX11_exchange 44 = .ok (.aload_n 0, 1) := by decide +kernel
theorem dX11_exchange_45 : decode cX11_exchange 45 = .ok (.iload 4, 2) := by decide +kernel
theorem dX11_exchange_47 : decode cX11_exchange 47 = .ok (.invokevirtual 181, 3) := by decide +kernel
theorem dX11_exchange_50 : decode cX11_exchange 50 = .ok (.invokevirtual 190, 3) := by decide +kernel
theorem dX11_exchange_53 : decode cX11_exchange 53 = .ok (.aload_n 0, 1) := by decide +kernel
theorem dX11_exchange_54 : decode cX11_exchange 54 = .ok (.getfield 19, 3) := by decide +kernel
theorem dX11_exchange_57 : decode cX11_exchange 57 = .ok (.invokevirtual 312, 3) := by decide +kernel
theorem dX11_exchange_60 : decode cX11_exchange 60 = .ok (.lastore, 1) := by decide +kernel
theorem dX11_exchange_61 : decode cX11_exchange 61 = .ok (.iinc 4 1, 3) := by decide +kernel
theorem dX11_exchange_64 : decode cX11_exchange 64 = .ok (.goto (-36), 3) := by decide +kernel
theorem dX11_exchange_67 : decode cX11_exchange 67 = .ok (.aload_n 0, 1) := by decide +kernel
theorem dX11_exchange_68 : decode cX11_exchange 68 = .ok (.getfield 19, 3) := by decide +kernel
theorem dX11_exchange_71 : decode cX11_exchange 71 = .ok (.invokevirtual 297, 3) := by decide +kernel
theorem dX11_exchange_74 : decode cX11_exchange 74 = .ok (.iload_n 1, 1) := by decide +kernel
theorem dX11_exchange_75 : decode cX11_exchange 75 = .ok (.iload_n 2, 1) := by decide +kernel
theorem dX11_exchange_76 : decode cX11_exchange 76 = .ok (.invokevirtual 316, 3) := by decide +kernel
theorem dX11_exchange_79 : decode cX11_exchange 79 = .ok (.iconst 0, 1) := by decide +kernel
theorem dX11_exchange_80 : decode cX11_exchange 80 = .ok (.istore 4, 2) := by decide +kernel
theorem dX11_exchange_82 : decode cX11_exchange 82 = .ok (.iconst 0, 1) := by decide +kernel
theorem dX11_exchange_83 : decode cX11_exchange 83 = .ok (.istore 5, 2) := by decide +kernel
theorem dX11_exchange_85 : decode cX11_exchange 85 = .ok (.iload 5, 2) := by decide +kernel
theorem dX11_exchange_87 : decode cX11_exchange 87 = .ok (.iload_n 3, 1) := by decide +kernel
theorem dX11_exchange_88 : decode cX11_exchange 88 = .ok (.if_icmp .ge 43, 3) := by decide +kernel
theorem dX11_exchange_91 : decode cX11_exchange 91 = .ok (.aload_n 0, 1) := by decide +kernel
theorem dX11_exchange_92 : decode cX11_exchange 92 = .ok (.getfield 50, 3) := by decide +kernel
theorem dX11_exchange_95 : decode cX11_exchange 95 = .ok (.aload_n 0, 1) := by decide +kernel
theorem dX11_exchange_96 : decode cX11_exchange 96 = .ok (.iload 5, 2) := by decide +kernel
theorem dX11_exchange_98 : decode cX11_exchange 98 = .ok (.invokevirtual 181, 3) := by decide +kernel
theorem dX11_exchange_101 : decode cX11_exchange 101 = .ok (.invokevirtual 190, 3) := by decide +kernel
theorem dX11_exchange_104 : decode cX11_exchange 104 = .ok (.aload_n 0, 1) := by decide +kernel
theorem dX11_exchange_105 : decode cX11_exchange 105 = .ok (.getfield 19, 3) := by decide +kernel
theorem dX11_exchange_108 : decode cX11_exchange 108 = .ok (.invokevirtual 312, 3) := by decide +kernel
theorem dX11_exchange_111 : decode cX11_exchange 111 = .ok (.aload_n 0, 1) := by decide +kernel
theorem dX11_exchange_112 : decode cX11_exchange 112 = .ok (.getfield 54, 3) := by decide +kernel
theorem dX11_exchange_115 : decode cX11_exchange 115 = .ok (.iload 5, 2) := by decide +kernel
theorem dX11_exchange_117 : decode cX11_exchange 117 = .ok (.laload, 1) := by decide +kernel
theorem dX11_exchange_118 : decode cX11_exchange 118 = .ok (.lcmp, 1) := by decide +kernel
theorem dX11_exchange_119 : decode cX11_exchange 119 = .ok (.ifCond .eq 6, 3) := by decide +kernel
theorem dX11_exchange_122 : decode cX11_exchange 122 = .ok (.iinc 4 1, 3) := by decide +kernel
theorem dX11_exchange_125 : decode cX11_exchange 125 = .ok (.iinc 5 1, 3) := by decide +kernel
theorem dX11_exchange_128 : decode cX11_exchange 128 = .ok (.goto (-43), 3) := by decide +kernel
theorem dX11_exchange_131 : decode cX11_exchange 131 = .ok (.iload 4, 2) := by decide +kernel
theorem dX11_exchange_133 : decode cX11_exchange 133 = .ok (.ireturn, 1) := by decide +kernel
set_option maxRecDepth 20000 in
theorem ggX11_removeRule_X11_requireRule : GoodIn wsX11_removeRule wsX11_requireRule := goodIn_ca (goodIn_r _ [6, 7, 8, 1, 9, 10, 11, 12, 13, 14, 15, 16, 17, 18, 19, 20, 102, 103, 104, 105, 106, 107, 108, 109, 110, 111, 112, 113, 114, 115, 116, 117, 118] (by decide +kernel) (by decide +kernel)) (goodIn_sub (fun _ h => List.mem_cons_of_mem _ (List.mem_append_left _ (List.mem_append_right _ h))) (by decide +kernel))
set_option maxRecDepth 20000 in
theorem gX11_removeRule_X11_requireRule : GoodIn wsX11_removeRule (wsV RX11 309 RX11 yX11_requireRule wsX11_requireRule) := goodIn_app (goodIn_of _ (by decide +kernel)) ggX11_removeRule_X11_requireRule
set_option maxRecDepth 20000 in
theorem ggX11_removeRule_X11_remember : GoodIn wsX11_removeRule wsX11_remember := goodIn_r _ [24, 25, 1, 26, 27, 28, 29, 30, 31, 32, 33, 34, 35, 12, 36, 37, 38, 14, 39, 40, 41, 42, 43, 44, 45, 46, 47, 48, 49, 50, 51, 52, 53, 54, 55, 56, 57, 58, 59, 60, 61, 62, 63, 64, 65, 66, 67, 68, 69, 70, 18, 71, 72, 73, 74, 75, 76, 20, 77, 78, 79, 80, 81, 82, 83, 84, 85, 102, 103, 104, 105, 106, 107, 108, 109, 110, 119, 120, 121, 111, 112, 113, 122, 123, 124, 125, 126, 127, 128, 129, 130, 114, 115, 116, 117, 118] (by decide +kernel) (by decide +kernel)
set_option maxRecDepth 20000 in
theorem gX11_removeRule_X11_remember : GoodIn wsX11_removeRule (wsV RX11 111 RX11 yX11_remember wsX11_remember) := goodIn_app (goodIn_of _ (by decide +kernel)) ggX11_removeRule_X11_remember
set_option maxRecDepth 20000 in
theorem ggX11_removeRule_X3_rules : GoodIn wsX11_removeRule wsX3_rules := goodIn_r _ [13, 14, 111, 112, 113] (by decide +kernel) (by decide +kernel)
set_option maxRecDepth 20000 in
theorem gX11_removeRule_X3_rules : GoodIn wsX11_removeRule (wsV RX11 297 RX3 yX3_rules wsX3_rules) := goodIn_app (goodIn_of _ (by decide +kernel)) ggX11_removeRule_X3_rules
set_option maxRecDepth 20000 in
theorem ggX11_removeRule_X10_count : GoodIn wsX11_removeRule wsX10_count := goodIn_r _ [101, 20, 114, 115, 116, 117, 118] (by decide +kernel) (by decide +kernel)
set_option maxRecDepth 20000 in
theorem gX11_removeRule_X10_count : GoodIn wsX11_removeRule (wsV RX11 308 RX10 yX10_count wsX10_count) := goodIn_app (goodIn_of _ (by decide +kernel)) ggX11_removeRule_X10_count
theorem dX11_removeRule_0 : decode cX11_removeRule 0 = .ok (.aload_n 0, 1) := by decide +kernel
theorem dX11_removeRule_1 : decode cX11_removeRule 1 = .ok (.iload_n 1, 1) := by decide +kernel
theorem dX11_removeRule_2 : decode cX11_removeRule 2 = .ok (.invokevirtual 309, 3) := by decide +kernel
theorem dX11_removeRule_5 : decode cX11_removeRule 5 = .ok (.aload_n 0, 1) := by decide +kernel
theorem dX11_removeRule_6 : decode cX11_removeRule 6 = .ok (.invokevirtual 111, 3) := by decide +kernel
theorem dX11_removeRule_9 : decode cX11_removeRule 9 = .ok (.aload_n 0, 1) := by decide +kernel
theorem dX11_removeRule_10 : decode cX11_removeRule 10 = .ok (.getfield 19, 3) := by decide +kernel
theorem dX11_removeRule_13 : decode cX11_removeRule 13 = .ok (.invokevirtual 297, 3) := by decide +kernel
theorem dX11_removeRule_16 : decode cX11_removeRule 16 = .ok (.iload_n 1, 1) := by decide +kernel
theorem dX11_removeRule_17 : decode cX11_removeRule 17 = .ok (.invokevirtual 319, 3) := by decide +kernel
theorem dX11_removeRule_20 : decode cX11_removeRule 20 = .ok (.aload_n 0, 1) := by decide +kernel
theorem dX11_removeRule_21 : decode cX11_removeRule 21 = .ok (.getfield 19, 3) := by decide +kernel
theorem dX11_removeRule_24 : decode cX11_removeRule 24 = .ok (.invokevirtual 297, 3) := by decide +kernel
theorem dX11_removeRule_27 : decode cX11_removeRule 27 = .ok (.invokevirtual 308, 3) := by decide +kernel
theorem dX11_removeRule_30 : decode cX11_removeRule 30 = .ok (.ireturn, 1) := by decide +kernel
set_option maxRecDepth 20000 in
theorem ggX11_rule_X11_requireRule : GoodIn wsX11_rule wsX11_requireRule := goodIn_ca (goodIn_r _ [8, 9, 10, 3, 11, 12, 13, 14, 15, 16, 17, 18, 19, 20, 21, 22, 146, 147, 148, 149, 150, 151, 152, 153, 154, 155, 156, 157, 158, 159, 160, 161, 162] (by decide +kernel) (by decide +kernel)) (goodIn_sub (fun _ h => List.mem_cons_of_mem _ (List.mem_append_left _ (List.mem_append_right _ h))) (by decide +kernel))
set_option maxRecDepth 20000 in
theorem gX11_rule_X11_requireRule : GoodIn wsX11_rule (wsV RX11 309 RX11 yX11_requireRule wsX11_requireRule) := goodIn_app (goodIn_of _ (by decide +kernel)) ggX11_rule_X11_requireRule
set_option maxRecDepth 20000 in
theorem ggX11_rule_X3_rules : GoodIn wsX11_rule wsX3_rules := goodIn_r _ [15, 16, 155, 156, 157] (by decide +kernel) (by decide +kernel)
set_option maxRecDepth 20000 in
theorem gX11_rule_X3_rules : GoodIn wsX11_rule (wsV RX11 297 RX3 yX3_rules wsX3_rules) := goodIn_app (goodIn_of _ (by decide +kernel)) ggX11_rule_X3_rules
set_option maxRecDepth 20000 in
theorem ggX11_rule_X3_alphabet : GoodIn wsX11_rule wsX3_alphabet := goodIn_r _ [26, 27, 155, 156, 157] (by decide +kernel) (by decide +kernel)
set_option maxRecDepth 20000 in
theorem gX11_rule_X3_alphabet : GoodIn wsX11_rule (wsV RX11 81 RX3 yX3_alphabet wsX3_alphabet) := goodIn_app (goodIn_of _ (by decide +kernel)) ggX11_rule_X3_alphabet
theorem dX11_rule_0 : decode cX11_rule 0 = .ok (.aload_n 0, 1) := by decide +kernel
theorem dX11_rule_1 : decode cX11_rule 1 = .ok (.iload_n 1, 1) := by decide +kernel
theorem dX11_rule_2 : decode cX11_rule 2 = .ok (.invokevirtual 309, 3) := by decide +kernel
theorem dX11_rule_5 : decode cX11_rule 5 = .ok (.aload_n 0, 1) := by decide +kernel
theorem dX11_rule_6 : decode cX11_rule 6 = .ok (.getfield 19, 3) := by decide +kernel
theorem dX11_rule_9 : decode cX11_rule 9 = .ok (.invokevirtual 297, 3) := by decide +kernel
theorem dX11_rule_12 : decode cX11_rule 12 = .ok (.astore_n 3, 1) := by decide +kernel
theorem dX11_rule_13 : decode cX11_rule 13 = .ok (.iload_n 2, 1) := by decide +kernel
theorem dX11_rule_14 : decode cX11_rule 14 = .ok (.tableswitch 84 0 4 #[34, 50, 66, 72, 78], 34) := by decide +kernel
theorem dX11_rule_48 : decode cX11_rule 48 = .ok (.aload_n 0, 1) := by decide +kernel
theorem dX11_rule_49 : decode cX11_rule 49 = .ok (.getfield 19, 3) := by decide +kernel
theorem dX11_rule_52 : decode cX11_rule 52 = .ok (.invokevirtual 81, 3) := by decide +kernel
theorem dX11_rule_55 : decode cX11_rule 55 = .ok (.aload_n 3, 1) := by decide +kernel
theorem dX11_rule_56 : decode cX11_rule 56 = .ok (.iload_n 1, 1) := by decide +kernel
theorem dX11_rule_57 : decode cX11_rule 57 = .ok (.invokevirtual 321, 3) := by decide +kernel
theorem dX11_rule_60 : decode cX11_rule 60 = .ok (.invokevirtual 324, 3) := by decide +kernel
theorem dX11_rule_63 : decode cX11_rule 63 = .ok (.ireturn, 1) := by decide +kernel
theorem dX11_rule_64 : decode cX11_rule 64 = .ok (.aload_n 0, 1) := by decide +kernel
theorem dX11_rule_65 : decode cX11_rule 65 = .ok (.getfield 19, 3) := by decide +kernel
theorem dX11_rule_68 : decode cX11_rule 68 = .ok (.invokevirtual 81, 3) := by decide +kernel
theorem dX11_rule_71 : decode cX11_rule 71 = .ok (.aload_n 3, 1) := by decide +kernel
theorem dX11_rule_72 : decode cX11_rule 72 = .ok (.iload_n 1, 1) := by decide +kernel
theorem dX11_rule_73 : decode cX11_rule 73 = .ok (.invokevirtual 327, 3) := by decide +kernel
theorem dX11_rule_76 : decode cX11_rule 76 = .ok (.invokevirtual 324, 3) := by decide +kernel
theorem dX11_rule_79 : decode cX11_rule 79 = .ok (.ireturn, 1) := by decide +kernel
theorem dX11_rule_80 : decode cX11_rule 80 = .ok (.aload_n 3, 1) := by decide +kernel
theorem dX11_rule_81 : decode cX11_rule 81 = .ok (.iload_n 1, 1) := by decide +kernel
theorem dX11_rule_82 : decode cX11_rule 82 = .ok (.invokevirtual 330, 3) := by decide +kernel
theorem dX11_rule_85 : decode cX11_rule 85 = .ok (.ireturn, 1) := by decide +kernel
theorem dX11_rule_86 : decode cX11_rule 86 = .ok (.aload_n 3, 1) := by decide +kernel
theorem dX11_rule_87 : decode cX11_rule 87 = .ok (.iload_n 1, 1) := by decide +kernel
theorem dX11_rule_88 : decode cX11_rule 88 = .ok (.invokevirtual 333, 3) := by decide +kernel
theorem dX11_rule_91 : decode cX11_rule 91 = .ok (.ireturn, 1) := by decide +kernel
theorem dX11_rule_92 : decode cX11_rule 92 = .ok (.aload_n 0, 1) := by decide +kernel
theorem dX11_rule_93 : decode cX11_rule 93 = .ok (.iload_n 1, 1) := by decide +kernel
theorem dX11_rule_94 : decode cX11_rule 94 = .ok (.invokevirtual 336, 3) := by decide +kernel
theorem dX11_rule_97 : decode cX11_rule 97 = .ok (.ireturn, 1) := by decide +kernel
theorem dX11_rule_98 : decode cX11_rule 98 = .ok (.new 95, 3) := by decide +kernel
theorem dX11_rule_101 : decode cX11_rule 101 = .ok (.dup, 1) := by decide +kernel
theorem dX11_rule_102 : decode cX11_rule 102 = .ok (.ldc_w 339, 3) := by decide +kernel
theorem dX11_rule_105 : decode cX11_rule 105 = .ok (.invokespecial 99, 3) := by decide +kernel
theorem dX11_rule_108 : decode cX11_rule 108 = .ok (.athrow, 1) := by decide +kernel
set_option maxRecDepth 20000 in
theorem ggX11_derived_X11_requireHeadword : GoodIn wsX11_derived wsX11_requireHeadword := goodIn_ca (goodIn_r _ [9, 10, 11, 4, 12, 13, 14, 15, 16, 17, 18, 19, 20, 21, 22, 23, 158, 159, 160, 161, 162, 163, 164, 165, 166, 167, 168, 169, 170, 171] (by decide +kernel) (by decide +kernel)) (goodIn_sub (fun _ h => List.mem_cons_of_mem _ (List.mem_append_left _ (List.mem_append_right _ h))) (by decide +kernel))
set_option maxRecDepth 20000 in
theorem gX11_derived_X11_requireHeadword : GoodIn wsX11_derived (wsV RX11 172 RX11 yX11_requireHeadword wsX11_requireHeadword) := goodIn_app (goodIn_of _ (by decide +kernel)) ggX11_derived_X11_requireHeadword
theorem dX11_derived_0 : decode cX11_derived 0 = .ok (.aload_n 0, 1) := by decide +kernel
theorem dX11_derived_1 : decode cX11_derived 1 = .ok (.iload_n 1, 1) := by decide +kernel
theorem dX11_derived_2 : decode cX11_derived 2 = .ok (.invokevirtual 172, 3) := by decide +kernel
theorem dX11_derived_5 : decode cX11_derived 5 = .ok (.aload_n 0, 1) := by decide +kernel
theorem dX11_derived_6 : decode cX11_derived 6 = .ok (.iload_n 1, 1) := by decide +kernel
theorem dX11_derived_7 : decode cX11_derived 7 = .ok (.iload_n 2, 1) := by decide +kernel
theorem dX11_derived_8 : decode cX11_derived 8 = .ok (.invokevirtual 258, 3) := by decide +kernel
theorem dX11_derived_11 : decode cX11_derived 11 = .ok (.aload_n 0, 1) := by decide +kernel
theorem dX11_derived_12 : decode cX11_derived 12 = .ok (.getfield 50, 3) := by decide +kernel
theorem dX11_derived_15 : decode cX11_derived 15 = .ok (.aload_n 0, 1) := by decide +kernel
theorem dX11_derived_16 : decode cX11_derived 16 = .ok (.iload_n 1, 1) := by decide +kernel
theorem dX11_derived_17 : decode cX11_derived 17 = .ok (.invokevirtual 181, 3) := by decide +kernel
theorem dX11_derived_20 : decode cX11_derived 20 = .ok (.iload_n 2, 1) := by decide +kernel
theorem dX11_derived_21 : decode cX11_derived 21 = .ok (.invokevirtual 261, 3) := by decide +kernel
theorem dX11_derived_24 : decode cX11_derived 24 = .ok (.aload_n 0, 1) := by decide +kernel
theorem dX11_derived_25 : decode cX11_derived 25 = .ok (.getfield 19, 3) := by decide +kernel
theorem dX11_derived_28 : decode cX11_derived 28 = .ok (.invokevirtual 312, 3) := by decide +kernel
theorem dX11_derived_31 : decode cX11_derived 31 = .ok (.pop2, 1) := by decide +kernel
theorem dX11_derived_32 : decode cX11_derived 32 = .ok (.iload_n 3, 1) := by decide +kernel
theorem dX11_derived_33 : decode cX11_derived 33 = .ok (.iconst (-1), 1) := by decide +kernel
theorem dX11_derived_34 : decode cX11_derived 34 = .ok (.if_icmp .ne 11, 3) := by decide +kernel
theorem dX11_derived_37 : decode cX11_derived 37 = .ok (.aload_n 0, 1) := by decide +kernel
theorem dX11_derived_38 : decode cX11_derived 38 = .ok (.getfield 50, 3) := by decide +kernel
theorem dX11_derived_41 : decode cX11_derived 41 = .ok (.invokevirtual 341, 3) := by decide +kernel
theorem dX11_derived_44 : decode cX11_derived 44 = .ok (.ireturn, 1) := by decide +kernel
theorem dX11_derived_45 : decode cX11_derived 45 = .ok (.aload_n 0, 1) := by decide +kernel
theorem dX11_derived_46 : decode cX11_derived 46 = .ok (.getfield 50, 3) := by decide +kernel
theorem dX11_derived_49 : decode cX11_derived 49 = .ok (.iload_n 3, 1) := by decide +kernel
theorem dX11_derived_50 : decode cX11_derived 50 = .ok (.invokevirtual 342, 3) := by decide +kernel
theorem dX11_derived_53 : decode cX11_derived 53 = .ok (.ifCond .ne 14, 3) := by decide +kernel
theorem dX11_derived_56 : decode cX11_derived 56 = .ok (.new 235, 3) := by decide +kernel
theorem dX11_derived_59 : decode cX11_derived 59 = .ok (.dup, 1) := by decide +kernel
theorem dX11_derived_60 : decode cX11_derived 60 = .ok (.ldc_w 345, 3) := by decide +kernel
theorem dX11_derived_63 : decode cX11_derived 63 = .ok (.invokespecial 239, 3) := by decide +kernel
theorem dX11_derived_66 : decode cX11_derived 66 = .ok (.athrow, 1) := by decide +kernel
theorem dX11_derived_67 : decode cX11_derived 67 = .ok (.aload_n 0, 1) := by decide +kernel
theorem dX11_derived_68 : decode cX11_derived 68 = .ok (.getfield 50, 3) := by decide +kernel
theorem dX11_derived_71 : decode cX11_derived 71 = .ok (.iload_n 3, 1) := by decide +kernel
theorem dX11_derived_72 : decode cX11_derived 72 = .ok (.invokevirtual 347, 3) := by decide +kernel
theorem dX11_derived_75 : decode cX11_derived 75 = .ok (.lstore 5, 2) := by decide +kernel
theorem dX11_derived_77 : decode cX11_derived 77 = .ok (.iload 4, 2) := by decide +kernel
theorem dX11_derived_79 : decode cX11_derived 79 = .ok (.iconst (-1), 1) := by decide +kernel
theorem dX11_derived_80 : decode cX11_derived 80 = .ok (.if_icmp .ne 11, 3) := by decide +kernel
theorem dX11_derived_83 : decode cX11_derived 83 = .ok (.lload 5, 2) := by decide +kernel
theorem dX11_derived_85 : decode cX11_derived 85 = .ok (.invokestatic 194, 3) := by decide +kernel
theorem dX11_derived_88 : decode cX11_derived 88 = .ok (.goto 11, 3) := by decide +kernel
theorem dX11_derived_91 : decode cX11_derived 91 = .ok (.aload_n 0, 1) := by decide +kernel
theorem dX11_derived_92 : decode cX11_derived 92 = .ok (.lload 5, 2) := by decide +kernel
theorem dX11_derived_94 : decode cX11_derived 94 = .ok (.iload 4, 2) := by decide +kernel
theorem dX11_derived_96 : decode cX11_derived 96 = .ok (.invokevirtual 265, 3) := by decide +kernel
theorem dX11_derived_99 : decode cX11_derived 99 = .ok (.ireturn, 1) := by decide +kernel
set_option maxRecDepth 20000 in
theorem ggX11_by_X11_requireHeadword : GoodIn wsX11_by wsX11_requireHeadword := goodIn_ca (goodIn_r _ [9, 10, 11, 4, 12, 13, 14, 15, 16, 17, 18, 19, 20, 21, 22, 23, 142, 143, 144, 145, 146, 147, 148, 149, 150, 151, 152, 153, 154, 155] (by decide +kernel) (by decide +kernel)) (goodIn_sub (fun _ h => List.mem_cons_of_mem _ (List.mem_append_left _ (List.mem_append_right _ h))) (by decide +kernel))
set_option maxRecDepth 20000 in
theorem gX11_by_X11_requireHeadword : GoodIn wsX11_by (wsV RX11 172 RX11 yX11_requireHeadword wsX11_requireHeadword) := goodIn_app (goodIn_of _ (by decide +kernel)) ggX11_by_X11_requireHeadword
theorem dX11_by_0 : decode cX11_by 0 = .ok (.aload_n 0, 1) := by decide +kernel
theorem dX11_by_1 : decode cX11_by 1 = .ok (.iload_n 1, 1) := by decide +kernel
theorem dX11_by_2 : decode cX11_by 2 = .ok (.invokevirtual 172, 3) := by decide +kernel
theorem dX11_by_5 : decode cX11_by 5 = .ok (.aload_n 0, 1) := by decide +kernel
theorem dX11_by_6 : decode cX11_by 6 = .ok (.iload_n 1, 1) := by decide +kernel
theorem dX11_by_7 : decode cX11_by 7 = .ok (.iload_n 2, 1) := by decide +kernel
theorem dX11_by_8 : decode cX11_by 8 = .ok (.invokevirtual 258, 3) := by decide +kernel
theorem dX11_by_11 : decode cX11_by 11 = .ok (.aload_n 0, 1) := by decide +kernel
theorem dX11_by_12 : decode cX11_by 12 = .ok (.getfield 50, 3) := by decide +kernel
theorem dX11_by_15 : decode cX11_by 15 = .ok (.aload_n 0, 1) := by decide +kernel
theorem dX11_by_16 : decode cX11_by 16 = .ok (.iload_n 1, 1) := by decide +kernel
theorem dX11_by_17 : decode cX11_by 17 = .ok (.invokevirtual 181, 3) := by decide +kernel
theorem dX11_by_20 : decode cX11_by 20 = .ok (.iload_n 2, 1) := by decide +kernel
theorem dX11_by_21 : decode cX11_by 21 = .ok (.invokevirtual 261, 3) := by decide +kernel
theorem dX11_by_24 : decode cX11_by 24 = .ok (.aload_n 0, 1) := by decide +kernel
theorem dX11_by_25 : decode cX11_by 25 = .ok (.getfield 19, 3) := by decide +kernel
theorem dX11_by_28 : decode cX11_by 28 = .ok (.invokevirtual 312, 3) := by decide +kernel
theorem dX11_by_31 : decode cX11_by 31 = .ok (.pop2, 1) := by decide +kernel
theorem dX11_by_32 : decode cX11_by 32 = .ok (.iload_n 3, 1) := by decide +kernel
theorem dX11_by_33 : decode cX11_by 33 = .ok (.ifCond .eq 14, 3) := by decide +kernel
theorem dX11_by_36 : decode cX11_by 36 = .ok (.aload_n 0, 1) := by decide +kernel
theorem dX11_by_37 : decode cX11_by 37 = .ok (.getfield 50, 3) := by decide +kernel
theorem dX11_by_40 : decode cX11_by 40 = .ok (.iload_n 3, 1) := by decide +kernel
theorem dX11_by_41 : decode cX11_by 41 = .ok (.invokevirtual 342, 3) := by decide +kernel
theorem dX11_by_44 : decode cX11_by 44 = .ok (.ifCond .ne 14, 3) := by decide +kernel
theorem dX11_by_47 : decode cX11_by 47 = .ok (.new 235, 3) := by decide +kernel
theorem dX11_by_50 : decode cX11_by 50 = .ok (.dup, 1) := by decide +kernel
theorem dX11_by_51 : decode cX11_by 51 = .ok (.ldc_w 348, 3) := by decide +kernel
theorem dX11_by_54 : decode cX11_by 54 = .ok (.invokespecial 239, 3) := by decide +kernel
theorem dX11_by_57 : decode cX11_by 57 = .ok (.athrow, 1) := by decide +kernel
theorem dX11_by_58 : decode cX11_by 58 = .ok (.aload_n 0, 1) := by decide +kernel
theorem dX11_by_59 : decode cX11_by 59 = .ok (.getfield 50, 3) := by decide +kernel
theorem dX11_by_62 : decode cX11_by 62 = .ok (.iload_n 3, 1) := by decide +kernel
theorem dX11_by_63 : decode cX11_by 63 = .ok (.invokevirtual 350, 3) := by decide +kernel
theorem dX11_by_66 : decode cX11_by 66 = .ok (.ireturn, 1) := by decide +kernel
set_option maxRecDepth 20000 in
theorem ggX11_proves_X11_requireHeadword : GoodIn wsX11_proves wsX11_requireHeadword := goodIn_ca (goodIn_r _ [9, 10, 11, 4, 12, 13, 14, 15, 16, 17, 18, 19, 20, 21, 22, 23, 137, 138, 139, 140, 141, 142, 143, 144, 145, 146, 147, 148, 149, 150] (by decide +kernel) (by decide +kernel)) (goodIn_sub (fun _ h => List.mem_cons_of_mem _ (List.mem_append_left _ (List.mem_append_right _ h))) (by decide +kernel))
set_option maxRecDepth 20000 in
theorem gX11_proves_X11_requireHeadword : GoodIn wsX11_proves (wsV RX11 172 RX11 yX11_requireHeadword wsX11_requireHeadword) := goodIn_app (goodIn_of _ (by decide +kernel)) ggX11_proves_X11_requireHeadword
theorem dX11_proves_0 : decode cX11_proves 0 = .ok (.aload_n 0, 1) := by decide +kernel
theorem dX11_proves_1 : decode cX11_proves 1 = .ok (.iload_n 1, 1) := by decide +kernel
theorem dX11_proves_2 : decode cX11_proves 2 = .ok (.invokevirtual 172, 3) := by decide +kernel
theorem dX11_proves_5 : decode cX11_proves 5 = .ok (.aload_n 0, 1) := by decide +kernel
theorem dX11_proves_6 : decode cX11_proves 6 = .ok (.iload_n 3, 1) := by decide +kernel
theorem dX11_proves_7 : decode cX11_proves 7 = .ok (.invokevirtual 172, 3) := by decide +kernel
theorem dX11_proves_10 : decode cX11_proves 10 = .ok (.aload_n 0, 1) := by decide +kernel
theorem dX11_proves_11 : decode cX11_proves 11 = .ok (.iload_n 1, 1) := by decide +kernel
theorem dX11_proves_12 : decode cX11_proves 12 = .ok (.iload_n 2, 1) := by decide +kernel
theorem dX11_proves_13 : decode cX11_proves 13 = .ok (.invokevirtual 258, 3) := by decide +kernel
theorem dX11_proves_16 : decode cX11_proves 16 = .ok (.aload_n 0, 1) := by decide +kernel
theorem dX11_proves_17 : decode cX11_proves 17 = .ok (.iload_n 3, 1) := by decide +kernel
theorem dX11_proves_18 : decode cX11_proves 18 = .ok (.iload 4, 2) := by decide +kernel
theorem dX11_proves_20 : decode cX11_proves 20 = .ok (.invokevirtual 258, 3) := by decide +kernel
theorem dX11_proves_23 : decode cX11_proves 23 = .ok (.aload_n 0, 1) := by decide +kernel
theorem dX11_proves_24 : decode cX11_proves 24 = .ok (.getfield 50, 3) := by decide +kernel
theorem dX11_proves_27 : decode cX11_proves 27 = .ok (.aload_n 0, 1) := by decide +kernel
theorem dX11_proves_28 : decode cX11_proves 28 = .ok (.iload_n 1, 1) := by decide +kernel
theorem dX11_proves_29 : decode cX11_proves 29 = .ok (.invokevirtual 181, 3) := by decide +kernel
theorem dX11_proves_32 : decode cX11_proves 32 = .ok (.iload_n 2, 1) := by decide +kernel
theorem dX11_proves_33 : decode cX11_proves 33 = .ok (.invokevirtual 261, 3) := by decide +kernel
theorem dX11_proves_36 : decode cX11_proves 36 = .ok (.aload_n 0, 1) := by decide +kernel
theorem dX11_proves_37 : decode cX11_proves 37 = .ok (.getfield 19, 3) := by decide +kernel
theorem dX11_proves_40 : decode cX11_proves 40 = .ok (.invokevirtual 312, 3) := by decide +kernel
theorem dX11_proves_43 : decode cX11_proves 43 = .ok (.pop2, 1) := by decide +kernel
theorem dX11_proves_44 : decode cX11_proves 44 = .ok (.aload_n 0, 1) := by decide +kernel
theorem dX11_proves_45 : decode cX11_proves 45 = .ok (.getfield 50, 3) := by decide +kernel
theorem dX11_proves_48 : decode cX11_proves 48 = .ok (.aload_n 0, 1) := by decide +kernel
theorem dX11_proves_49 : decode cX11_proves 49 = .ok (.iload_n 3, 1) := by decide +kernel
theorem dX11_proves_50 : decode cX11_proves 50 = .ok (.invokevirtual 181, 3) := by decide +kernel
theorem dX11_proves_53 : decode cX11_proves 53 = .ok (.iload 4, 2) := by decide +kernel
theorem dX11_proves_55 : decode cX11_proves 55 = .ok (.invokevirtual 261, 3) := by decide +kernel
theorem dX11_proves_58 : decode cX11_proves 58 = .ok (.invokevirtual 353, 3) := by decide +kernel
theorem dX11_proves_61 : decode cX11_proves 61 = .ok (.istore 5, 2) := by decide +kernel
theorem dX11_proves_63 : decode cX11_proves 63 = .ok (.iload 5, 2) := by decide +kernel
theorem dX11_proves_65 : decode cX11_proves 65 = .ok (.iconst (-1), 1) := by decide +kernel
theorem dX11_proves_66 : decode cX11_proves 66 = .ok (.if_icmp .ne 14, 3) := by decide +kernel
theorem dX11_proves_69 : decode cX11_proves 69 = .ok (.new 235, 3) := by decide +kernel
theorem dX11_proves_72 : decode cX11_proves 72 = .ok (.dup, 1) := by decide +kernel
theorem dX11_proves_73 : decode cX11_proves 73 = .ok (.ldc_w 356, 3) := by decide +kernel
theorem dX11_proves_76 : decode cX11_proves 76 = .ok (.invokespecial 239, 3) := by decide +kernel
theorem dX11_proves_79 : decode cX11_proves 79 = .ok (.athrow, 1) := by decide +kernel
theorem dX11_proves_80 : decode cX11_proves 80 = .ok (.iload 5, 2) := by decide +kernel
theorem dX11_proves_82 : decode cX11_proves 82 = .ok (.ireturn, 1) := by decide +kernel
set_option maxRecDepth 20000 in
theorem ggX11_report_X9_levels : GoodIn wsX11_report wsX9_levels := goodIn_r _ [8, 9, 29, 30, 31] (by decide +kernel) (by decide +kernel)
set_option maxRecDepth 20000 in
theorem gX11_report_X9_levels : GoodIn wsX11_report (wsV RX11 358 RX9 yX9_levels wsX9_levels) := goodIn_app (goodIn_of _ (by decide +kernel)) ggX11_report_X9_levels
theorem dX11_report_0 : decode cX11_report 0 = .ok (.iload_n 1, 1) := by decide +kernel
theorem dX11_report_1 : decode cX11_report 1 = .ok (.ifCond .lt 14, 3) := by decide +kernel
theorem dX11_report_4 : decode cX11_report 4 = .ok (.iload_n 1, 1) := by decide +kernel
theorem dX11_report_5 : decode cX11_report 5 = .ok (.aload_n 0, 1) := by decide +kernel
theorem dX11_report_6 : decode cX11_report 6 = .ok (.getfield 36, 3) := by decide +kernel
theorem dX11_report_9 : decode cX11_report 9 = .ok (.invokevirtual 358, 3) := by decide +kernel
theorem dX11_report_12 : decode cX11_report 12 = .ok (.if_icmp .lt 14, 3) := by decide +kernel
theorem dX11_report_15 : decode cX11_report 15 = .ok (.new 235, 3) := by decide +kernel
theorem dX11_report_18 : decode cX11_report 18 = .ok (.dup, 1) := by decide +kernel
theorem dX11_report_19 : decode cX11_report 19 = .ok (.ldc_w 361, 3) := by decide +kernel
theorem dX11_report_22 : decode cX11_report 22 = .ok (.invokespecial 239, 3) := by decide +kernel
theorem dX11_report_25 : decode cX11_report 25 = .ok (.athrow, 1) := by decide +kernel
theorem dX11_report_26 : decode cX11_report 26 = .ok (.iload_n 2, 1) := by decide +kernel
theorem dX11_report_27 : decode cX11_report 27 = .ok (.ifCond .eq 14, 3) := by decide +kernel
theorem dX11_report_30 : decode cX11_report 30 = .ok (.aload_n 0, 1) := by decide +kernel
theorem dX11_report_31 : decode cX11_report 31 = .ok (.getfield 36, 3) := by decide +kernel
theorem dX11_report_34 : decode cX11_report 34 = .ok (.iload_n 1, 1) := by decide +kernel
theorem dX11_report_35 : decode cX11_report 35 = .ok (.invokevirtual 363, 3) := by decide +kernel
theorem dX11_report_38 : decode cX11_report 38 = .ok (.goto 11, 3) := by decide +kernel
theorem dX11_report_41 : decode cX11_report 41 = .ok (.aload_n 0, 1) := by decide +kernel
theorem dX11_report_42 : decode cX11_report 42 = .ok (.getfield 36, 3) := by decide +kernel
theorem dX11_report_45 : decode cX11_report 45 = .ok (.iload_n 1, 1) := by decide +kernel
theorem dX11_report_46 : decode cX11_report 46 = .ok (.invokevirtual 366, 3) := by decide +kernel
theorem dX11_report_49 : decode cX11_report 49 = .ok (.ireturn, 1) := by decide +kernel
set_option maxRecDepth 20000 in
theorem ggX11_account_X3_lexicon : GoodIn wsX11_account wsX3_lexicon := goodIn_r _ [9, 10, 187, 188, 189] (by decide +kernel) (by decide +kernel)
set_option maxRecDepth 20000 in
theorem gX11_account_X3_lexicon : GoodIn wsX11_account (wsV RX11 153 RX3 yX3_lexicon wsX3_lexicon) := goodIn_app (goodIn_of _ (by decide +kernel)) ggX11_account_X3_lexicon
set_option maxRecDepth 20000 in
theorem ggX11_account_X8_count : GoodIn wsX11_account wsX8_count := goodIn_r _ [15, 16, 190, 191] (by decide +kernel) (by decide +kernel)
set_option maxRecDepth 20000 in
theorem gX11_account_X8_count : GoodIn wsX11_account (wsV RX11 171 RX8 yX8_count wsX8_count) := goodIn_app (goodIn_of _ (by decide +kernel)) ggX11_account_X8_count
set_option maxRecDepth 20000 in
theorem ggX11_account_X8_formCount : GoodIn wsX11_account wsX8_formCount := goodIn_r _ [20, 16, 21, 22, 23, 24, 25, 26, 27, 190, 191, 192, 193, 194] (by decide +kernel) (by decide +kernel)
set_option maxRecDepth 20000 in
theorem gX11_account_X8_formCount : GoodIn wsX11_account (wsV RX11 369 RX8 yX8_formCount wsX8_formCount) := goodIn_app (goodIn_of _ (by decide +kernel)) ggX11_account_X8_formCount
set_option maxRecDepth 20000 in
theorem ggX11_account_X8_references : GoodIn wsX11_account wsX8_references := goodIn_r _ [31, 16, 21, 32, 33, 34, 25, 35, 36, 190, 191, 192, 193, 194] (by decide +kernel) (by decide +kernel)
set_option maxRecDepth 20000 in
theorem gX11_account_X8_references : GoodIn wsX11_account (wsV RX11 370 RX8 yX8_references wsX8_references) := goodIn_app (goodIn_of _ (by decide +kernel)) ggX11_account_X8_references
set_option maxRecDepth 20000 in
theorem ggX11_account_X3_rules : GoodIn wsX11_account wsX3_rules := goodIn_r _ [40, 41, 187, 188, 189] (by decide +kernel) (by decide +kernel)
set_option maxRecDepth 20000 in
theorem gX11_account_X3_rules : GoodIn wsX11_account (wsV RX11 297 RX3 yX3_rules wsX3_rules) := goodIn_app (goodIn_of _ (by decide +kernel)) ggX11_account_X3_rules
set_option maxRecDepth 20000 in
theorem ggX11_account_X10_count : GoodIn wsX11_account wsX10_count := goodIn_r _ [46, 47, 195, 196, 197, 198, 199] (by decide +kernel) (by decide +kernel)
set_option maxRecDepth 20000 in
theorem gX11_account_X10_count : GoodIn wsX11_account (wsV RX11 308 RX10 yX10_count wsX10_count) := goodIn_app (goodIn_of _ (by decide +kernel)) ggX11_account_X10_count
set_option maxRecDepth 20000 in
theorem ggX11_account_X3_alphabet : GoodIn wsX11_account wsX3_alphabet := goodIn_r _ [51, 52, 187, 188, 189] (by decide +kernel) (by decide +kernel)
set_option maxRecDepth 20000 in
theorem gX11_account_X3_alphabet : GoodIn wsX11_account (wsV RX11 81 RX3 yX3_alphabet wsX3_alphabet) := goodIn_app (goodIn_of _ (by decide +kernel)) ggX11_account_X3_alphabet
set_option maxRecDepth 20000 in
theorem ggX11_account_X0_size : GoodIn wsX11_account wsX0_size := goodIn_r _ [57, 58, 200, 201, 202, 203] (by decide +kernel) (by decide +kernel)
set_option maxRecDepth 20000 in
theorem gX11_account_X0_size : GoodIn wsX11_account (wsV RX11 100 RX0 yX0_size wsX0_size) := goodIn_app (goodIn_of _ (by decide +kernel)) ggX11_account_X0_size
set_option maxRecDepth 20000 in
theorem ggX11_account_X8_lettersOfAllForms : GoodIn wsX11_account wsX8_lettersOfAllForms := goodIn_ca (goodIn_r _ [62, 16, 21, 63, 64, 65, 25, 66, 27, 67, 68, 69, 70, 71, 72, 73, 74, 75, 190, 191, 192, 193, 194] (by decide +kernel) (by decide +kernel)) (goodIn_sub (fun _ h => List.mem_cons_of_mem _ (List.mem_append_right _ h)) (by decide +kernel))
set_option maxRecDepth 20000 in
theorem gX11_account_X8_lettersOfAllForms : GoodIn wsX11_account (wsV RX11 373 RX8 yX8_lettersOfAllForms wsX8_lettersOfAllForms) := goodIn_app (goodIn_of _ (by decide +kernel)) ggX11_account_X8_lettersOfAllForms
set_option maxRecDepth 20000 in
theorem ggX11_account_X8_unconnected : GoodIn wsX11_account wsX8_unconnected := goodIn_r _ [79, 16, 21, 32, 33, 34, 25, 35, 36, 80, 81, 82, 14, 83, 190, 191, 192, 193, 194] (by decide +kernel) (by decide +kernel)
set_option maxRecDepth 20000 in
theorem gX11_account_X8_unconnected : GoodIn wsX11_account (wsV RX11 376 RX8 yX8_unconnected wsX8_unconnected) := goodIn_app (goodIn_of _ (by decide +kernel)) ggX11_account_X8_unconnected
set_option maxRecDepth 20000 in
theorem ggX11_account_X11_differentResults : GoodIn wsX11_account wsX11_differentResults := goodIn_ca (goodIn_r _ [88, 3, 89, 90, 5, 6, 7, 8, 9, 10, 11, 12, 13, 14, 15, 16, 91, 92, 93, 87, 94, 95, 96, 97, 98, 21, 99, 100, 101, 102, 103, 104, 105, 25, 106, 67, 107, 108, 109, 110, 111, 112, 113, 114, 115, 38, 39, 40, 41, 116, 43, 44, 45, 46, 47, 117, 49, 50, 51, 52, 118, 119, 120, 121, 122, 69, 70, 71, 72, 73, 74, 75, 123, 124, 125, 126, 127, 128, 129, 130, 131, 132, 133, 134, 135, 136, 137, 138, 139, 140, 141, 142, 143, 144, 145, 146, 147, 56, 148, 149, 150, 151, 152, 58, 153, 154, 155, 156, 157, 158, 159, 160, 161, 162, 163, 164, 165, 166, 167, 168, 169, 170, 171, 178, 179, 180, 181, 182, 183, 184, 185, 186, 187, 188, 189, 190, 191, 192, 193, 194, 204, 205, 206, 195, 196, 197, 198, 199, 200, 201, 202, 203] (by decide +kernel) (by decide +kernel)) (goodIn_sub (fun _ h => List.mem_cons_of_mem _ (List.mem_append_right _ h)) (by decide +kernel))
set_option maxRecDepth 20000 in
theorem gX11_account_X11_differentResults : GoodIn wsX11_account (wsV RX11 379 RX11 yX11_differentResults wsX11_differentResults) := goodIn_app (goodIn_of _ (by decide +kernel)) ggX11_account_X11_differentResults
set_option maxRecDepth 20000 in
theorem ggX11_account_X7_count : GoodIn wsX11_account wsX7_count := goodIn_r _ [176, 177, 207, 208, 209, 210] (by decide +kernel) (by decide +kernel)
set_option maxRecDepth 20000 in
theorem gX11_account_X7_count : GoodIn wsX11_account (wsV RX11 77 RX7 yX7_count wsX7_count) := goodIn_app (goodIn_of _ (by decide +kernel)) ggX11_account_X7_count
theorem dX11_account_0 : decode cX11_account 0 = .ok (.iload_n 1, 1) := by decide +kernel
theorem dX11_account_1 : decode cX11_account 1 = .ok (.tableswitch 141 0 8 #[51, 62, 73, 84, 95, 106, 117, 128, 133], 51) := by decide +kernel
theorem dX11_account_52 : decode cX11_account 52 = .ok (.aload_n 0, 1) := by decide +kernel
theorem dX11_account_53 : decode cX11_account 53 = .ok (.getfield 19, 3) := by decide +kernel
theorem dX11_account_56 : decode cX11_account 56 = .ok (.invokevirtual 153, 3) := by decide +kernel
theorem dX11_account_59 : decode cX11_account 59 = .ok (.invokevirtual 171, 3) := by decide +kernel
theorem dX11_account_62 : decode cX11_account 62 = .ok (.ireturn, 1) := by decide +kernel
theorem dX11_account_63 : decode cX11_account 63 = .ok (.aload_n 0, 1) := by decide +kernel
theorem dX11_account_64 : decode cX11_account 64 = .ok (.getfield 19, 3) := by decide +kernel
theorem dX11_account_67 : decode cX11_account 67 = .ok (.invokevirtual 153, 3) := by decide +kernel
theorem dX11_account_70 : decode cX11_account 70 = .ok (.invokevirtual 369, 3) := by decide +kernel
theorem dX11_account_73 : decode cX11_account 73 = .ok (.ireturn, 1) := by decide +kernel
theorem dX11_account_74 : decode cX11_account 74 = .ok (.aload_n 0, 1) := by decide +kernel
theorem dX11_account_75 : decode cX11_account 75 = .ok (.getfield 19, 3) := by decide +kernel
theorem dX11_account_78 : decode cX11_account 78 = .ok (.invokevirtual 153, 3) := by decide +kernel
theorem dX11_account_81 : decode cX11_account 81 = .ok (.invokevirtual 370, 3) := by decide +kernel
theorem dX11_account_84 : decode cX11_account 84 = .ok (.ireturn, 1) := by decide +kernel
theorem dX11_account_85 : decode cX11_account 85 = .ok (.aload_n 0, 1) := by decide +kernel
theorem dX11_account_86 : decode cX11_account 86 = .ok (.getfield 19, 3) := by decide +kernel
theorem dX11_account_89 : decode cX11_account 89 = .ok (.invokevirtual 297, 3) := by decide +kernel
theorem dX11_account_92 : decode cX11_account 92 = .ok (.invokevirtual 308, 3) := by decide +kernel
theorem dX11_account_95 : decode cX11_account 95 = .ok (.ireturn, 1) := by decide +kernel
theorem dX11_account_96 : decode cX11_account 96 = .ok (.aload_n 0, 1) := by decide +kernel
theorem dX11_account_97 : decode cX11_account 97 = .ok (.getfield 19, 3) := by decide +kernel
theorem dX11_account_100 : decode cX11_account 100 = .ok (.invokevirtual 81, 3) := by decide +kernel
theorem dX11_account_103 : decode cX11_account 103 = .ok (.invokevirtual 100, 3) := by decide +kernel
theorem dX11_account_106 : decode cX11_account 106 = .ok (.ireturn, 1) := by decide +kernel
theorem dX11_account_107 : decode cX11_account 107 = .ok (.aload_n 0, 1) := by decide +kernel
theorem dX11_account_108 : decode cX11_account 108 = .ok (.getfield 19, 3) := by decide +kernel
theorem dX11_account_111 : decode cX11_account 111 = .ok (.invokevirtual 153, 3) := by decide +kernel
theorem dX11_account_114 : decode cX11_account 114 = .ok (.invokevirtual 373, 3) := by decide +kernel
theorem dX11_account_117 : decode cX11_account 117 = .ok (.ireturn, 1) := by decide +kernel
theorem dX11_account_118 : decode cX11_account 118 = .ok (.aload_n 0, 1) := by decide +kernel
theorem dX11_account_119 : decode cX11_account 119 = .ok (.getfield 19, 3) := by decide +kernel
theorem dX11_account_122 : decode cX11_account 122 = .ok (.invokevirtual 153, 3) := by decide +kernel
theorem dX11_account_125 : decode cX11_account 125 = .ok (.invokevirtual 376, 3) := by decide +kernel
theorem dX11_account_128 : decode cX11_account 128 = .ok (.ireturn, 1) := by decide +kernel
theorem dX11_account_129 : decode cX11_account 129 = .ok (.aload_n 0, 1) := by decide +kernel
theorem dX11_account_130 : decode cX11_account 130 = .ok (.invokevirtual 379, 3) := by decide +kernel
theorem dX11_account_133 : decode cX11_account 133 = .ok (.ireturn, 1) := by decide +kernel
theorem dX11_account_134 : decode cX11_account 134 = .ok (.aload_n 0, 1) := by decide +kernel
theorem dX11_account_135 : decode cX11_account 135 = .ok (.getfield 10, 3) := by decide +kernel
theorem dX11_account_138 : decode cX11_account 138 = .ok (.invokevirtual 77, 3) := by decide +kernel
theorem dX11_account_141 : decode cX11_account 141 = .ok (.ireturn, 1) := by decide +kernel
theorem dX11_account_142 : decode cX11_account 142 = .ok (.new 95, 3) := by decide +kernel
theorem dX11_account_145 : decode cX11_account 145 = .ok (.dup, 1) := by decide +kernel
theorem dX11_account_146 : decode cX11_account 146 = .ok (.ldc_w 382, 3) := by decide +kernel
theorem dX11_account_149 : decode cX11_account 149 = .ok (.invokespecial 99, 3) := by decide +kernel
theorem dX11_account_152 : decode cX11_account 152 = .ok (.athrow, 1) := by decide +kernel
set_option maxRecDepth 20000 in
theorem ggX11_meanLength_X3_lexicon : GoodIn wsX11_meanLength wsX3_lexicon := goodIn_r _ [8, 9, 49, 50, 51] (by decide +kernel) (by decide +kernel)
set_option maxRecDepth 20000 in
theorem gX11_meanLength_X3_lexicon : GoodIn wsX11_meanLength (wsV RX11 153 RX3 yX3_lexicon wsX3_lexicon) := goodIn_app (goodIn_of _ (by decide +kernel)) ggX11_meanLength_X3_lexicon
set_option maxRecDepth 20000 in
theorem ggX11_meanLength_X8_formCount : GoodIn wsX11_meanLength wsX8_formCount := goodIn_r _ [14, 15, 16, 17, 18, 19, 20, 21, 22, 52, 53, 54, 55, 56] (by decide +kernel) (by decide +kernel)
set_option maxRecDepth 20000 in
theorem gX11_meanLength_X8_formCount : GoodIn wsX11_meanLength (wsV RX11 369 RX8 yX8_formCount wsX8_formCount) := goodIn_app (goodIn_of _ (by decide +kernel)) ggX11_meanLength_X8_formCount
set_option maxRecDepth 20000 in
theorem ggX11_meanLength_X8_lettersOfAllForms : GoodIn wsX11_meanLength wsX8_lettersOfAllForms := goodIn_ca (goodIn_r _ [26, 15, 16, 27, 28, 29, 20, 30, 22, 31, 32, 33, 34, 35, 36, 37, 38, 39, 52, 53, 54, 55, 56] (by decide +kernel) (by decide +kernel)) (goodIn_sub (fun _ h => List.mem_cons_of_mem _ (List.mem_append_right _ h)) (by decide +kernel))
set_option maxRecDepth 20000 in
theorem gX11_meanLength_X8_lettersOfAllForms : GoodIn wsX11_meanLength (wsV RX11 373 RX8 yX8_lettersOfAllForms wsX8_lettersOfAllForms) := goodIn_app (goodIn_of _ (by decide +kernel)) ggX11_meanLength_X8_lettersOfAllForms
theorem dX11_meanLength_0 : decode cX11_meanLength 0 = .ok (.aload_n 0, 1) := by decide +kernel
theorem dX11_meanLength_1 : decode cX11_meanLength 1 = .ok (.getfield 19, 3) := by decide +kernel
theorem dX11_meanLength_4 : decode cX11_meanLength 4 = .ok (.invokevirtual 153, 3) := by decide +kernel
theorem dX11_meanLength_7 : decode cX11_meanLength 7 = .ok (.invokevirtual 369, 3) := by decide +kernel
theorem dX11_meanLength_10 : decode cX11_meanLength 10 = .ok (.istore_n 1, 1) := by decide +kernel
theorem dX11_meanLength_11 : decode cX11_meanLength 11 = .ok (.iload_n 1, 1) := by decide +kernel
theorem dX11_meanLength_12 : decode cX11_meanLength 12 = .ok (.ifCond .ne 14, 3) := by decide +kernel
theorem dX11_meanLength_15 : decode cX11_meanLength 15 = .ok (.new 384, 3) := by decide +kernel
theorem dX11_meanLength_18 : decode cX11_meanLength 18 = .ok (.dup, 1) := by decide +kernel
theorem dX11_meanLength_19 : decode cX11_meanLength 19 = .ok (.ldc_w 386, 3) := by decide +kernel
theorem dX11_meanLength_22 : decode cX11_meanLength 22 = .ok (.invokespecial 388, 3) := by decide +kernel
theorem dX11_meanLength_25 : decode cX11_meanLength 25 = .ok (.athrow, 1) := by decide +kernel
theorem dX11_meanLength_26 : decode cX11_meanLength 26 = .ok (.aload_n 0, 1) := by decide +kernel
theorem dX11_meanLength_27 : decode cX11_meanLength 27 = .ok (.getfield 19, 3) := by decide +kernel
theorem dX11_meanLength_30 : decode cX11_meanLength 30 = .ok (.invokevirtual 153, 3) := by decide +kernel
theorem dX11_meanLength_33 : decode cX11_meanLength 33 = .ok (.invokevirtual 373, 3) := by decide +kernel
theorem dX11_meanLength_36 : decode cX11_meanLength 36 = .ok (.i2d, 1) := by decide +kernel
theorem dX11_meanLength_37 : decode cX11_meanLength 37 = .ok (.iload_n 1, 1) := by decide +kernel
theorem dX11_meanLength_38 : decode cX11_meanLength 38 = .ok (.i2d, 1) := by decide +kernel
theorem dX11_meanLength_39 : decode cX11_meanLength 39 = .ok (.ddiv, 1) := by decide +kernel
theorem dX11_meanLength_40 : decode cX11_meanLength 40 = .ok (.dreturn, 1) := by decide +kernel
set_option maxRecDepth 20000 in
theorem ggX11_changedShare_X3_lexicon : GoodIn wsX11_changedShare wsX3_lexicon := goodIn_r _ [9, 10, 129, 130, 131] (by decide +kernel) (by decide +kernel)
set_option maxRecDepth 20000 in
theorem gX11_changedShare_X3_lexicon : GoodIn wsX11_changedShare (wsV RX11 153 RX3 yX3_lexicon wsX3_lexicon) := goodIn_app (goodIn_of _ (by decide +kernel)) ggX11_changedShare_X3_lexicon
set_option maxRecDepth 20000 in
theorem ggX11_changedShare_X8_count : GoodIn wsX11_changedShare wsX8_count := goodIn_r _ [15, 16, 132, 133] (by decide +kernel) (by decide +kernel)
set_option maxRecDepth 20000 in
theorem gX11_changedShare_X8_count : GoodIn wsX11_changedShare (wsV RX11 171 RX8 yX8_count wsX8_count) := goodIn_app (goodIn_of _ (by decide +kernel)) ggX11_changedShare_X8_count
theorem dX11_changedShare_0 : decode cX11_changedShare 0 = .ok (.aload_n 0, 1) := by decide +kernel
theorem dX11_changedShare_1 : decode cX11_changedShare 1 = .ok (.getfield 19, 3) := by decide +kernel
theorem dX11_changedShare_4 : decode cX11_changedShare 4 = .ok (.invokevirtual 153, 3) := by decide +kernel
theorem dX11_changedShare_7 : decode cX11_changedShare 7 = .ok (.invokevirtual 171, 3) := by decide +kernel
theorem dX11_changedShare_10 : decode cX11_changedShare 10 = .ok (.istore_n 1, 1) := by decide +kernel
theorem dX11_changedShare_11 : decode cX11_changedShare 11 = .ok (.iload_n 1, 1) := by decide +kernel
theorem dX11_changedShare_12 : decode cX11_changedShare 12 = .ok (.ifCond .ne 14, 3) := by decide +kernel
theorem dX11_changedShare_15 : decode cX11_changedShare 15 = .ok (.new 384, 3) := by decide +kernel
theorem dX11_changedShare_18 : decode cX11_changedShare 18 = .ok (.dup, 1) := by decide +kernel
theorem dX11_changedShare_19 : decode cX11_changedShare 19 = .ok (.ldc_w 389, 3) := by decide +kernel
theorem dX11_changedShare_22 : decode cX11_changedShare 22 = .ok (.invokespecial 388, 3) := by decide +kernel
theorem dX11_changedShare_25 : decode cX11_changedShare 25 = .ok (.athrow, 1) := by decide +kernel
theorem dX11_changedShare_26 : decode cX11_changedShare 26 = .ok (.iconst 0, 1) := by decide +kernel
theorem dX11_changedShare_27 : decode cX11_changedShare 27 = .ok (.istore_n 2, 1) := by decide +kernel
theorem dX11_changedShare_28 : decode cX11_changedShare 28 = .ok (.iconst 0, 1) := by decide +kernel
theorem dX11_changedShare_29 : decode cX11_changedShare 29 = .ok (.istore_n 3, 1) := by decide +kernel
theorem dX11_changedShare_30 : decode cX11_changedShare 30 = .ok (.iload_n 3, 1) := by decide +kernel
theorem dX11_changedShare_31 : decode cX11_changedShare 31 = .ok (.iload_n 1, 1) := by decide +kernel
theorem dX11_changedShare_32 : decode cX11_changedShare 32 = .ok (.if_icmp .ge 43, 3) := by decide +kernel
theorem dX11_changedShare_35 : decode cX11_changedShare 35 = .ok (.aload_n 0, 1) := by decide +kernel
theorem dX11_changedShare_36 : decode cX11_changedShare 36 = .ok (.getfield 50, 3) := by decide +kernel
theorem dX11_changedShare_39 : decode cX11_changedShare 39 = .ok (.aload_n 0, 1) := by decide +kernel
theorem dX11_changedShare_40 : decode cX11_changedShare 40 = .ok (.iload_n 3, 1) := by decide +kernel
theorem dX11_changedShare_41 : decode cX11_changedShare 41 = .ok (.invokevirtual 181, 3) := by decide +kernel
theorem dX11_changedShare_44 : decode cX11_changedShare 44 = .ok (.invokevirtual 190, 3) := by decide +kernel
theorem dX11_changedShare_47 : decode cX11_changedShare 47 = .ok (.aload_n 0, 1) := by decide +kernel
theorem dX11_changedShare_48 : decode cX11_changedShare 48 = .ok (.getfield 19, 3) := by decide +kernel
theorem dX11_changedShare_51 : decode cX11_changedShare 51 = .ok (.invokevirtual 312, 3) := by decide +kernel
theorem dX11_changedShare_54 : decode cX11_changedShare 54 = .ok (.aload_n 0, 1) := by decide +kernel
theorem dX11_changedShare_55 : decode cX11_changedShare 55 = .ok (.iload_n 3, 1) := by decide +kernel
theorem dX11_changedShare_56 : decode cX11_changedShare 56 = .ok (.invokevirtual 181, 3) := by decide +kernel
theorem dX11_changedShare_59 : decode cX11_changedShare 59 = .ok (.invokevirtual 190, 3) := by decide +kernel
theorem dX11_changedShare_62 : decode cX11_changedShare 62 = .ok (.lcmp, 1) := by decide +kernel
theorem dX11_changedShare_63 : decode cX11_changedShare 63 = .ok (.ifCond .eq 6, 3) := by decide +kernel
theorem dX11_changedShare_66 : decode cX11_changedShare 66 = .ok (.iinc 2 1, 3) := by decide +kernel
theorem dX11_changedShare_69 : decode cX11_changedShare 69 = .ok (.iinc 3 1, 3) := by decide +kernel
theorem dX11_changedShare_72 : decode cX11_changedShare 72 = .ok (.goto (-42), 3) := by decide +kernel
theorem dX11_changedShare_75 : decode cX11_changedShare 75 = .ok (.iload_n 2, 1) := by decide +kernel
theorem dX11_changedShare_76 : decode cX11_changedShare 76 = .ok (.i2f, 1) := by decide +kernel
theorem dX11_changedShare_77 : decode cX11_changedShare 77 = .ok (.iload_n 1, 1) := by decide +kernel
theorem dX11_changedShare_78 : decode cX11_changedShare 78 = .ok (.i2f, 1) := by decide +kernel
theorem dX11_changedShare_79 : decode cX11_changedShare 79 = .ok (.fdiv, 1) := by decide +kernel
theorem dX11_changedShare_80 : decode cX11_changedShare 80 = .ok (.freturn, 1) := by decide +kernel
set_option maxRecDepth 20000 in
theorem ggX11_perform_X1_parse : GoodIn wsX11_perform wsX1_parse := goodIn_ca (goodIn_r _ [11, 12, 13, 14, 15, 16, 10, 17, 18, 19, 20, 21, 22, 23, 24, 25, 26, 27, 28, 29, 30, 31, 32, 33, 34, 35, 36, 37, 38, 39, 40, 41, 42, 43, 44, 45, 46, 47, 48, 49, 50, 51, 333, 334, 335, 336, 337, 338, 339, 340, 341, 342, 343] (by decide +kernel) (by decide +kernel)) (goodIn_sub (fun _ h => List.mem_cons_of_mem _ (List.mem_append_right _ h)) (by decide +kernel))
set_option maxRecDepth 20000 in
theorem gX11_perform_X1_parse : GoodIn wsX11_perform (wsV RX11 391 RX1 yX1_parse wsX1_parse) := goodIn_app (goodIn_of _ (by decide +kernel)) ggX11_perform_X1_parse
set_option maxRecDepth 20000 in
theorem ggX11_perform_X7_clear : GoodIn wsX11_perform wsX7_clear := goodIn_r _ [55, 30, 340, 341, 342, 343] (by decide +kernel) (by decide +kernel)
set_option maxRecDepth 20000 in
theorem gX11_perform_X7_clear : GoodIn wsX11_perform (wsV RX11 146 RX7 yX7_clear wsX7_clear) := goodIn_app (goodIn_of _ (by decide +kernel)) ggX11_perform_X7_clear
set_option maxRecDepth 20000 in
theorem ggX11_perform_X1_errorPosition : GoodIn wsX11_perform wsX1_errorPosition := goodIn_r _ [59, 13, 333, 334, 335, 336, 337, 338, 339] (by decide +kernel) (by decide +kernel)
set_option maxRecDepth 20000 in
theorem gX11_perform_X1_errorPosition : GoodIn wsX11_perform (wsV RX11 395 RX1 yX1_errorPosition wsX1_errorPosition) := goodIn_app (goodIn_of _ (by decide +kernel)) ggX11_perform_X1_errorPosition
set_option maxRecDepth 20000 in
theorem ggX11_perform_X6_prepare : GoodIn wsX11_perform wsX6_prepare := goodIn_r _ [64, 65, 66, 67, 68, 69, 70, 71, 72, 73, 74, 75, 76, 77, 78, 79, 80, 81, 82, 83, 84, 85, 86, 87, 88, 89, 90, 91, 92, 93, 94, 95, 96, 97, 98, 99, 100, 101, 102, 103, 104, 105, 106, 107, 108, 109, 110, 111, 112, 113, 114, 344, 345, 346, 347, 348, 349, 350, 351, 352, 353, 354, 355, 356, 357, 358, 359, 360, 361, 362, 363] (by decide +kernel) (by decide +kernel)
set_option maxRecDepth 20000 in
theorem gX11_perform_X6_prepare : GoodIn wsX11_perform (wsV RX11 149 RX6 yX6_prepare wsX6_prepare) := goodIn_app (goodIn_of _ (by decide +kernel)) ggX11_perform_X6_prepare
set_option maxRecDepth 20000 in
theorem ggX11_perform_X3_copyFrom : GoodIn wsX11_perform wsX3_copyFrom := goodIn_r _ [71, 72, 73, 74, 75, 76, 77, 78, 79, 80, 81, 82, 83, 84, 85, 86, 87, 88, 89, 90, 91, 92, 93, 94, 95, 96, 97, 98, 99, 100, 101, 102, 103, 104, 105, 106, 107, 108, 109, 110, 111, 112, 113, 114, 347, 348, 349, 350, 351, 352, 353, 354, 355, 356, 357, 358, 359, 360, 361, 362, 363] (by decide +kernel) (by decide +kernel)
set_option maxRecDepth 20000 in
theorem gX11_perform_X3_copyFrom : GoodIn wsX11_perform (wsV RX11 405 RX3 yX3_copyFrom wsX3_copyFrom) := goodIn_app (goodIn_of _ (by decide +kernel)) ggX11_perform_X3_copyFrom
set_option maxRecDepth 20000 in
theorem ggX11_perform_X6_keep : GoodIn wsX11_perform wsX6_keep := goodIn_r _ [318, 66, 319, 320, 321, 322, 323, 344, 345, 346] (by decide +kernel) (by decide +kernel)
set_option maxRecDepth 20000 in
theorem gX11_perform_X6_keep : GoodIn wsX11_perform (wsV RX11 168 RX6 yX6_keep wsX6_keep) := goodIn_app (goodIn_of _ (by decide +kernel)) ggX11_perform_X6_keep
theorem dX11_perform_0 : decode cX11_perform 0 = .ok (.aload_n 0, 1) := by decide +kernel
theorem dX11_perform_1 : decode cX11_perform 1 = .ok (.getfield 43, 3) := by decide +kernel
theorem dX11_perform_4 : decode cX11_perform 4 = .ok (.aload_n 0, 1) := by decide +kernel
theorem dX11_perform_5 : decode cX11_perform 5 = .ok (.getfield 10, 3) := by decide +kernel
theorem dX11_perform_8 : decode cX11_perform 8 = .ok (.invokevirtual 391, 3) := by decide +kernel
theorem dX11_perform_11 : decode cX11_perform 11 = .ok (.ifCond .ne 21, 3) := by decide +kernel
theorem dX11_perform_14 : decode cX11_perform 14 = .ok (.aload_n 0, 1) := by decide +kernel
theorem dX11_perform_15 : decode cX11_perform 15 = .ok (.getfield 10, 3) := by decide +kernel
theorem dX11_perform_18 : decode cX11_perform 18 = .ok (.invokevirtual 146, 3) := by decide +kernel
theorem dX11_perform_21 : decode cX11_perform 21 = .ok (.bipush (-100), 2) := by decide +kernel
theorem dX11_perform_23 : decode cX11_perform 23 = .ok (.aload_n 0, 1) := by decide +kernel
theorem dX11_perform_24 : decode cX11_perform 24 = .ok (.getfield 43, 3) := by decide +kernel
theorem dX11_perform_27 : decode cX11_perform 27 = .ok (.invokevirtual 395, 3) := by decide +kernel
theorem dX11_perform_30 : decode cX11_perform 30 = .ok (.isub, 1) := by decide +kernel
theorem dX11_perform_31 : decode cX11_perform 31 = .ok (.ireturn, 1) := by decide +kernel
theorem dX11_perform_32 : decode cX11_perform 32 = .ok (.aload_n 0, 1) := by decide +kernel
theorem dX11_perform_33 : decode cX11_perform 33 = .ok (.getfield 29, 3) := by decide +kernel
theorem dX11_perform_36 : decode cX11_perform 36 = .ok (.aload_n 0, 1) := by decide +kernel
theorem dX11_perform_37 : decode cX11_perform 37 = .ok (.getfield 19, 3) := by decide +kernel
theorem dX11_perform_40 : decode cX11_perform 40 = .ok (.invokevirtual 149, 3) := by decide +kernel
theorem dX11_perform_43 : decode cX11_perform 43 = .ok (.aload_n 0, 1) := by decide +kernel
theorem dX11_perform_44 : decode cX11_perform 44 = .ok (.invokevirtual 398, 3) := by decide +kernel
theorem dX11_perform_47 : decode cX11_perform 47 = .ok (.istore_n 1, 1) := by decide +kernel
theorem dX11_perform_48 : decode cX11_perform 48 = .ok (.aload_n 0, 1) := by decide +kernel
theorem dX11_perform_49 : decode cX11_perform 49 = .ok (.getfield 10, 3) := by decide +kernel
theorem dX11_perform_52 : decode cX11_perform 52 = .ok (.invokevirtual 146, 3) := by decide +kernel
theorem dX11_perform_55 : decode cX11_perform 55 = .ok (.iload_n 1, 1) := by decide +kernel
theorem dX11_perform_56 : decode cX11_perform 56 = .ok (.ifCond .ne 28, 3) := by decide +kernel
theorem dX11_perform_59 : decode cX11_perform 59 = .ok (.aload_n 0, 1) := by decide +kernel
theorem dX11_perform_60 : decode cX11_perform 60 = .ok (.getfield 19, 3) := by decide +kernel
theorem dX11_perform_63 : decode cX11_perform 63 = .ok (.aload_n 0, 1) := by decide +kernel
theorem dX11_perform_64 : decode cX11_perform 64 = .ok (.getfield 29, 3) := by decide +kernel
theorem dX11_perform_67 : decode cX11_perform 67 = .ok (.invokevirtual 401, 3) := by decide +kernel
theorem dX11_perform_70 : decode cX11_perform 70 = .ok (.invokevirtual 405, 3) := by decide +kernel
theorem dX11_perform_73 : decode cX11_perform 73 = .ok (.new 163, 3) := by decide +kernel
theorem dX11_perform_76 : decode cX11_perform 76 = .ok (.dup, 1) := by decide +kernel
theorem dX11_perform_77 : decode cX11_perform 77 = .ok (.ldc_w 408, 3) := by decide +kernel
theorem dX11_perform_80 : decode cX11_perform 80 = .ok (.invokespecial 167, 3) := by decide +kernel
theorem dX11_perform_83 : decode cX11_perform 83 = .ok (.athrow, 1) := by decide +kernel
theorem dX11_perform_84 : decode cX11_perform 84 = .ok (.aload_n 0, 1) := by decide +kernel
theorem dX11_perform_85 : decode cX11_perform 85 = .ok (.getfield 29, 3) := by decide +kernel
theorem dX11_perform_88 : decode cX11_perform 88 = .ok (.invokevirtual 168, 3) := by decide +kernel
theorem dX11_perform_91 : decode cX11_perform 91 = .ok (.aload_n 0, 1) := by decide +kernel
theorem dX11_perform_92 : decode cX11_perform 92 = .ok (.getfield 43, 3) := by decide +kernel
theorem dX11_perform_95 : decode cX11_perform 95 = .ok (.invokevirtual 410, 3) := by decide +kernel
theorem dX11_perform_98 : decode cX11_perform 98 = .ok (.ireturn, 1) := by decide +kernel
set_option maxRecDepth 20000 in
theorem ggX11_undo_X6_count : GoodIn wsX11_undo wsX6_count := goodIn_r _ [9, 10, 74, 75, 76] (by decide +kernel) (by decide +kernel)
set_option maxRecDepth 20000 in
theorem gX11_undo_X6_count : GoodIn wsX11_undo (wsV RX11 411 RX6 yX6_count wsX6_count) := goodIn_app (goodIn_of _ (by decide +kernel)) ggX11_undo_X6_count
theorem dX11_undo_0 : decode cX11_undo 0 = .ok (.aload_n 0, 1) := by decide +kernel
theorem dX11_undo_1 : decode cX11_undo 1 = .ok (.getfield 29, 3) := by decide +kernel
theorem dX11_undo_4 : decode cX11_undo 4 = .ok (.invokevirtual 411, 3) := by decide +kernel
theorem dX11_undo_7 : decode cX11_undo 7 = .ok (.ifCond .ne 14, 3) := by decide +kernel
theorem dX11_undo_10 : decode cX11_undo 10 = .ok (.new 66, 3) := by decide +kernel
theorem dX11_undo_13 : decode cX11_undo 13 = .ok (.dup, 1) := by decide +kernel
theorem dX11_undo_14 : decode cX11_undo 14 = .ok (.ldc_w 412, 3) := by decide +kernel
theorem dX11_undo_17 : decode cX11_undo 17 = .ok (.invokespecial 70, 3) := by decide +kernel
theorem dX11_undo_20 : decode cX11_undo 20 = .ok (.athrow, 1) := by decide +kernel
theorem dX11_undo_21 : decode cX11_undo 21 = .ok (.aload_n 0, 1) := by decide +kernel
theorem dX11_undo_22 : decode cX11_undo 22 = .ok (.getfield 29, 3) := by decide +kernel
theorem dX11_undo_25 : decode cX11_undo 25 = .ok (.aload_n 0, 1) := by decide +kernel
theorem dX11_undo_26 : decode cX11_undo 26 = .ok (.getfield 19, 3) := by decide +kernel
theorem dX11_undo_29 : decode cX11_undo 29 = .ok (.invokevirtual 414, 3) := by decide +kernel
theorem dX11_undo_32 : decode cX11_undo 32 = .ok (.aload_n 0, 1) := by decide +kernel
theorem dX11_undo_33 : decode cX11_undo 33 = .ok (.getfield 29, 3) := by decide +kernel
theorem dX11_undo_36 : decode cX11_undo 36 = .ok (.invokevirtual 411, 3) := by decide +kernel
theorem dX11_undo_39 : decode cX11_undo 39 = .ok (.ireturn, 1) := by decide +kernel
set_option maxRecDepth 20000 in
theorem ggX11_save_X3_copyFrom : GoodIn wsX11_save wsX3_copyFrom := goodIn_r _ [8, 9, 10, 11, 12, 13, 14, 15, 16, 17, 18, 19, 20, 21, 22, 23, 24, 25, 26, 27, 28, 29, 30, 31, 32, 33, 34, 35, 36, 37, 38, 39, 40, 41, 42, 43, 44, 45, 46, 47, 48, 49, 50, 51, 69, 70, 71, 72, 73, 74, 75, 76, 77, 78, 79, 80, 81, 82, 83, 84, 85] (by decide +kernel) (by decide +kernel)
set_option maxRecDepth 20000 in
theorem gX11_save_X3_copyFrom : GoodIn wsX11_save (wsV RX11 405 RX3 yX3_copyFrom wsX3_copyFrom) := goodIn_app (goodIn_of _ (by decide +kernel)) ggX11_save_X3_copyFrom
set_option maxRecDepth 20000 in
theorem ggX11_save_X3_lexicon : GoodIn wsX11_save wsX3_lexicon := goodIn_r _ [55, 10, 69, 70, 71] (by decide +kernel) (by decide +kernel)
set_option maxRecDepth 20000 in
theorem gX11_save_X3_lexicon : GoodIn wsX11_save (wsV RX11 153 RX3 yX3_lexicon wsX3_lexicon) := goodIn_app (goodIn_of _ (by decide +kernel)) ggX11_save_X3_lexicon
set_option maxRecDepth 20000 in
theorem ggX11_save_X8_count : GoodIn wsX11_save wsX8_count := goodIn_r _ [59, 30, 76, 77] (by decide +kernel) (by decide +kernel)
set_option maxRecDepth 20000 in
theorem gX11_save_X8_count : GoodIn wsX11_save (wsV RX11 171 RX8 yX8_count wsX8_count) := goodIn_app (goodIn_of _ (by decide +kernel)) ggX11_save_X8_count
theorem dX11_save_0 : decode cX11_save 0 = .ok (.aload_n 0, 1) := by decide +kernel
theorem dX11_save_1 : decode cX11_save 1 = .ok (.getfield 23, 3) := by decide +kernel
theorem dX11_save_4 : decode cX11_save 4 = .ok (.aload_n 0, 1) := by decide +kernel
theorem dX11_save_5 : decode cX11_save 5 = .ok (.getfield 19, 3) := by decide +kernel
theorem dX11_save_8 : decode cX11_save 8 = .ok (.invokevirtual 405, 3) := by decide +kernel
theorem dX11_save_11 : decode cX11_save 11 = .ok (.aload_n 0, 1) := by decide +kernel
theorem dX11_save_12 : decode cX11_save 12 = .ok (.iconst 1, 1) := by decide +kernel
theorem dX11_save_13 : decode cX11_save 13 = .ok (.putfield 58, 3) := by decide +kernel
theorem dX11_save_16 : decode cX11_save 16 = .ok (.aload_n 0, 1) := by decide +kernel
theorem dX11_save_17 : decode cX11_save 17 = .ok (.getfield 19, 3) := by decide +kernel
theorem dX11_save_20 : decode cX11_save 20 = .ok (.invokevirtual 153, 3) := by decide +kernel
theorem dX11_save_23 : decode cX11_save 23 = .ok (.invokevirtual 171, 3) := by decide +kernel
theorem dX11_save_26 : decode cX11_save 26 = .ok (.ireturn, 1) := by decide +kernel
set_option maxRecDepth 20000 in
theorem ggX11_restore_X3_copyFrom : GoodIn wsX11_restore wsX3_copyFrom := goodIn_r _ [11, 12, 13, 14, 15, 16, 17, 18, 19, 20, 21, 22, 23, 24, 25, 26, 27, 28, 29, 30, 31, 32, 33, 34, 35, 36, 37, 38, 39, 40, 41, 42, 43, 44, 45, 46, 47, 48, 49, 50, 51, 52, 53, 54, 78, 79, 80, 81, 82, 83, 84, 85, 86, 87, 88, 89, 90, 91, 92, 93, 94] (by decide +kernel) (by decide +kernel)
set_option maxRecDepth 20000 in
theorem gX11_restore_X3_copyFrom : GoodIn wsX11_restore (wsV RX11 405 RX3 yX3_copyFrom wsX3_copyFrom) := goodIn_app (goodIn_of _ (by decide +kernel)) ggX11_restore_X3_copyFrom
set_option maxRecDepth 20000 in
theorem ggX11_restore_X3_lexicon : GoodIn wsX11_restore wsX3_lexicon := goodIn_r _ [64, 13, 78, 79, 80] (by decide +kernel) (by decide +kernel)
set_option maxRecDepth 20000 in
theorem gX11_restore_X3_lexicon : GoodIn wsX11_restore (wsV RX11 153 RX3 yX3_lexicon wsX3_lexicon) := goodIn_app (goodIn_of _ (by decide +kernel)) ggX11_restore_X3_lexicon
set_option maxRecDepth 20000 in
theorem ggX11_restore_X8_count : GoodIn wsX11_restore wsX8_count := goodIn_r _ [68, 33, 85, 86] (by decide +kernel) (by decide +kernel)
set_option maxRecDepth 20000 in
theorem gX11_restore_X8_count : GoodIn wsX11_restore (wsV RX11 171 RX8 yX8_count wsX8_count) := goodIn_app (goodIn_of _ (by decide +kernel)) ggX11_restore_X8_count
theorem dX11_restore_0 : decode cX11_restore 0 = .ok (.aload_n 0, 1) := by decide +kernel
theorem dX11_restore_1 : decode cX11_restore 1 = .ok (.getfield 58, 3) := by decide +kernel
theorem dX11_restore_4 : decode cX11_restore 4 = .ok (.ifCond .ne 14, 3) := by decide +kernel
theorem dX11_restore_7 : decode cX11_restore 7 = .ok (.new 66, 3) := by decide +kernel
theorem dX11_restore_10 : decode cX11_restore 10 = .ok (.dup, 1) := by decide +kernel
theorem dX11_restore_11 : decode cX11_restore 11 = .ok (.ldc_w 417, 3) := by decide +kernel
theorem dX11_restore_14 : decode cX11_restore 14 = .ok (.invokespecial 70, 3) := by decide +kernel
theorem dX11_restore_17 : decode cX11_restore 17 = .ok (.athrow, 1) := by decide +kernel
theorem dX11_restore_18 : decode cX11_restore 18 = .ok (.aload_n 0, 1) := by decide +kernel
theorem dX11_restore_19 : decode cX11_restore 19 = .ok (.getfield 19, 3) := by decide +kernel
theorem dX11_restore_22 : decode cX11_restore 22 = .ok (.aload_n 0, 1) := by decide +kernel
theorem dX11_restore_23 : decode cX11_restore 23 = .ok (.getfield 23, 3) := by decide +kernel
theorem dX11_restore_26 : decode cX11_restore 26 = .ok (.invokevirtual 405, 3) := by decide +kernel
theorem dX11_restore_29 : decode cX11_restore 29 = .ok (.aload_n 0, 1) := by decide +kernel
theorem dX11_restore_30 : decode cX11_restore 30 = .ok (.getfield 29, 3) := by decide +kernel
theorem dX11_restore_33 : decode cX11_restore 33 = .ok (.invokevirtual 419, 3) := by decide +kernel
theorem dX11_restore_36 : decode cX11_restore 36 = .ok (.aload_n 0, 1) := by decide +kernel
theorem dX11_restore_37 : decode cX11_restore 37 = .ok (.getfield 19, 3) := by decide +kernel
theorem dX11_restore_40 : decode cX11_restore 40 = .ok (.invokevirtual 153, 3) := by decide +kernel
theorem dX11_restore_43 : decode cX11_restore 43 = .ok (.invokevirtual 171, 3) := by decide +kernel
theorem dX11_restore_46 : decode cX11_restore 46 = .ok (.ireturn, 1) := by decide +kernel
set_option maxRecDepth 20000 in
theorem ggX11_requirePlace_X3_alphabet : GoodIn wsX11_requirePlace wsX3_alphabet := goodIn_r _ [8, 9, 25, 26, 27] (by decide +kernel) (by decide +kernel)
set_option maxRecDepth 20000 in
theorem gX11_requirePlace_X3_alphabet : GoodIn wsX11_requirePlace (wsV RX11 81 RX3 yX3_alphabet wsX3_alphabet) := goodIn_app (goodIn_of _ (by decide +kernel)) ggX11_requirePlace_X3_alphabet
set_option maxRecDepth 20000 in
theorem ggX11_requirePlace_X0_hasPlace : GoodIn wsX11_requirePlace wsX0_hasPlace := goodIn_r _ [14, 15, 28, 29, 30, 31] (by decide +kernel) (by decide +kernel)
set_option maxRecDepth 20000 in
theorem gX11_requirePlace_X0_hasPlace : GoodIn wsX11_requirePlace (wsV RX11 420 RX0 yX0_hasPlace wsX0_hasPlace) := goodIn_app (goodIn_of _ (by decide +kernel)) ggX11_requirePlace_X0_hasPlace
theorem dX11_requirePlace_0 : decode cX11_requirePlace 0 = .ok (.aload_n 0, 1) := by decide +kernel
theorem dX11_requirePlace_1 : decode cX11_requirePlace 1 = .ok (.getfield 19, 3) := by decide +kernel
theorem dX11_requirePlace_4 : decode cX11_requirePlace 4 = .ok (.invokevirtual 81, 3) := by decide +kernel
theorem dX11_requirePlace_7 : decode cX11_requirePlace 7 = .ok (.iload_n 1, 1) := by decide +kernel
theorem dX11_requirePlace_8 : decode cX11_requirePlace 8 = .ok (.invokevirtual 420, 3) := by decide +kernel
theorem dX11_requirePlace_11 : decode cX11_requirePlace 11 = .ok (.ifCond .ne 14, 3) := by decide +kernel
theorem dX11_requirePlace_14 : decode cX11_requirePlace 14 = .ok (.new 103, 3) := by decide +kernel
theorem dX11_requirePlace_17 : decode cX11_requirePlace 17 = .ok (.dup, 1) := by decide +kernel
theorem dX11_requirePlace_18 : decode cX11_requirePlace 18 = .ok (.ldc_w 421, 3) := by decide +kernel
theorem dX11_requirePlace_21 : decode cX11_requirePlace 21 = .ok (.invokespecial 107, 3) := by decide +kernel
theorem dX11_requirePlace_24 : decode cX11_requirePlace 24 = .ok (.athrow, 1) := by decide +kernel
theorem dX11_requirePlace_25 : decode cX11_requirePlace 25 = .ok (.return_, 1) := by decide +kernel
set_option maxRecDepth 20000 in
theorem ggX11_requireHeadword_X3_lexicon : GoodIn wsX11_requireHeadword wsX3_lexicon := goodIn_r _ [8, 9, 25, 26, 27] (by decide +kernel) (by decide +kernel)
set_option maxRecDepth 20000 in
theorem gX11_requireHeadword_X3_lexicon : GoodIn wsX11_requireHeadword (wsV RX11 153 RX3 yX3_lexicon wsX3_lexicon) := goodIn_app (goodIn_of _ (by decide +kernel)) ggX11_requireHeadword_X3_lexicon
set_option maxRecDepth 20000 in
theorem ggX11_requireHeadword_X8_hasHeadword : GoodIn wsX11_requireHeadword wsX8_hasHeadword := goodIn_r _ [14, 15, 28, 29] (by decide +kernel) (by decide +kernel)
set_option maxRecDepth 20000 in
theorem gX11_requireHeadword_X8_hasHeadword : GoodIn wsX11_requireHeadword (wsV RX11 423 RX8 yX8_hasHeadword wsX8_hasHeadword) := goodIn_app (goodIn_of _ (by decide +kernel)) ggX11_requireHeadword_X8_hasHeadword
theorem dX11_requireHeadword_0 : decode cX11_requireHeadword 0 = .ok (.aload_n 0, 1) := by decide +kernel
theorem dX11_requireHeadword_1 : decode cX11_requireHeadword 1 = .ok (.getfield 19, 3) := by decide +kernel
theorem dX11_requireHeadword_4 : decode cX11_requireHeadword 4 = .ok (.invokevirtual 153, 3) := by decide +kernel
theorem dX11_requireHeadword_7 : decode cX11_requireHeadword 7 = .ok (.iload_n 1, 1) := by decide +kernel
theorem dX11_requireHeadword_8 : decode cX11_requireHeadword 8 = .ok (.invokevirtual 423, 3) := by decide +kernel
theorem dX11_requireHeadword_11 : decode cX11_requireHeadword 11 = .ok (.ifCond .ne 14, 3) := by decide +kernel
theorem dX11_requireHeadword_14 : decode cX11_requireHeadword 14 = .ok (.new 103, 3) := by decide +kernel
theorem dX11_requireHeadword_17 : decode cX11_requireHeadword 17 = .ok (.dup, 1) := by decide +kernel
theorem dX11_requireHeadword_18 : decode cX11_requireHeadword 18 = .ok (.ldc_w 426, 3) := by decide +kernel
theorem dX11_requireHeadword_21 : decode cX11_requireHeadword 21 = .ok (.invokespecial 107, 3) := by decide +kernel
theorem dX11_requireHeadword_24 : decode cX11_requireHeadword 24 = .ok (.athrow, 1) := by decide +kernel
theorem dX11_requireHeadword_25 : decode cX11_requireHeadword 25 = .ok (.return_, 1) := by decide +kernel
set_option maxRecDepth 20000 in
theorem ggX11_requireRule_X3_rules : GoodIn wsX11_requireRule wsX3_rules := goodIn_r _ [8, 9, 25, 26, 27] (by decide +kernel) (by decide +kernel)
set_option maxRecDepth 20000 in
theorem gX11_requireRule_X3_rules : GoodIn wsX11_requireRule (wsV RX11 297 RX3 yX3_rules wsX3_rules) := goodIn_app (goodIn_of _ (by decide +kernel)) ggX11_requireRule_X3_rules
set_option maxRecDepth 20000 in
theorem ggX11_requireRule_X10_hasRule : GoodIn wsX11_requireRule wsX10_hasRule := goodIn_r _ [14, 15, 28, 29, 30, 31, 32] (by decide +kernel) (by decide +kernel)
set_option maxRecDepth 20000 in
theorem gX11_requireRule_X10_hasRule : GoodIn wsX11_requireRule (wsV RX11 435 RX10 yX10_hasRule wsX10_hasRule) := goodIn_app (goodIn_of _ (by decide +kernel)) ggX11_requireRule_X10_hasRule
theorem dX11_requireRule_0 : decode cX11_requireRule 0 = .ok (.aload_n 0, 1) := by decide +kernel
theorem dX11_requireRule_1 : decode cX11_requireRule 1 = .ok (.getfield 19, 3) := by decide +kernel
theorem dX11_requireRule_4 : decode cX11_requireRule 4 = .ok (.invokevirtual 297, 3) := by decide +kernel
theorem dX11_requireRule_7 : decode cX11_requireRule 7 = .ok (.iload_n 1, 1) := by decide +kernel
theorem dX11_requireRule_8 : decode cX11_requireRule 8 = .ok (.invokevirtual 435, 3) := by decide +kernel
theorem dX11_requireRule_11 : decode cX11_requireRule 11 = .ok (.ifCond .ne 14, 3) := by decide +kernel
theorem dX11_requireRule_14 : decode cX11_requireRule 14 = .ok (.new 103, 3) := by decide +kernel
theorem dX11_requireRule_17 : decode cX11_requireRule 17 = .ok (.dup, 1) := by decide +kernel
theorem dX11_requireRule_18 : decode cX11_requireRule 18 = .ok (.ldc_w 438, 3) := by decide +kernel
theorem dX11_requireRule_21 : decode cX11_requireRule 21 = .ok (.invokespecial 107, 3) := by decide +kernel
theorem dX11_requireRule_24 : decode cX11_requireRule 24 = .ok (.athrow, 1) := by decide +kernel
theorem dX11_requireRule_25 : decode cX11_requireRule 25 = .ok (.return_, 1) := by decide +kernel
set_option maxRecDepth 20000 in
theorem ggX11_remember_X6_prepare : GoodIn wsX11_remember wsX6_prepare := goodIn_r _ [7, 8, 9, 10, 11, 12, 13, 14, 15, 16, 17, 18, 19, 20, 21, 22, 23, 24, 25, 26, 27, 28, 29, 30, 31, 32, 33, 34, 35, 36, 37, 38, 39, 40, 41, 42, 43, 44, 45, 46, 47, 48, 49, 50, 51, 52, 53, 54, 55, 56, 57, 76, 77, 78, 79, 80, 81, 82, 83, 84, 85, 86, 87, 88, 89, 90, 91, 92, 93, 94, 95] (by decide +kernel) (by decide +kernel)
set_option maxRecDepth 20000 in
theorem gX11_remember_X6_prepare : GoodIn wsX11_remember (wsV RX11 149 RX6 yX6_prepare wsX6_prepare) := goodIn_app (goodIn_of _ (by decide +kernel)) ggX11_remember_X6_prepare
set_option maxRecDepth 20000 in
theorem ggX11_remember_X6_keep : GoodIn wsX11_remember wsX6_keep := goodIn_r _ [61, 9, 62, 63, 64, 65, 66, 76, 77, 78] (by decide +kernel) (by decide +kernel)
set_option maxRecDepth 20000 in
theorem gX11_remember_X6_keep : GoodIn wsX11_remember (wsV RX11 168 RX6 yX6_keep wsX6_keep) := goodIn_app (goodIn_of _ (by decide +kernel)) ggX11_remember_X6_keep
theorem dX11_remember_0 : decode cX11_remember 0 = .ok (.aload_n 0, 1) := by decide +kernel
theorem dX11_remember_1 : decode cX11_remember 1 = .ok (.getfield 29, 3) := by decide +kernel
theorem dX11_remember_4 : decode cX11_remember 4 = .ok (.aload_n 0, 1) := by decide +kernel
theorem dX11_remember_5 : decode cX11_remember 5 = .ok (.getfield 19, 3) := by decide +kernel
theorem dX11_remember_8 : decode cX11_remember 8 = .ok (.invokevirtual 149, 3) := by decide +kernel
theorem dX11_remember_11 : decode cX11_remember 11 = .ok (.aload_n 0, 1) := by decide +kernel
theorem dX11_remember_12 : decode cX11_remember 12 = .ok (.getfield 29, 3) := by decide +kernel
theorem dX11_remember_15 : decode cX11_remember 15 = .ok (.invokevirtual 168, 3) := by decide +kernel
theorem dX11_remember_18 : decode cX11_remember 18 = .ok (.return_, 1) := by decide +kernel
set_option maxRecDepth 20000 in
theorem ggX11_differentResults_X3_lexicon : GoodIn wsX11_differentResults wsX3_lexicon := goodIn_r _ [8, 9, 132, 133, 134] (by decide +kernel) (by decide +kernel)
set_option maxRecDepth 20000 in
theorem gX11_differentResults_X3_lexicon : GoodIn wsX11_differentResults (wsV RX11 153 RX3 yX3_lexicon wsX3_lexicon) := goodIn_app (goodIn_of _ (by decide +kernel)) ggX11_differentResults_X3_lexicon
set_option maxRecDepth 20000 in
theorem ggX11_differentResults_X8_count : GoodIn wsX11_differentResults wsX8_count := goodIn_r _ [14, 15, 135, 136] (by decide +kernel) (by decide +kernel)
set_option maxRecDepth 20000 in
theorem gX11_differentResults_X8_count : GoodIn wsX11_differentResults (wsV RX11 171 RX8 yX8_count wsX8_count) := goodIn_app (goodIn_of _ (by decide +kernel)) ggX11_differentResults_X8_count
theorem dX11_differentResults_0 : decode cX11_differentResults 0 = .ok (.iconst 0, 1) := by decide +kernel
theorem dX11_differentResults_1 : decode cX11_differentResults 1 = .ok (.istore_n 1, 1) := by decide +kernel
theorem dX11_differentResults_2 : decode cX11_differentResults 2 = .ok (.iconst 0, 1) := by decide +kernel
theorem dX11_differentResults_3 : decode cX11_differentResults 3 = .ok (.istore_n 2, 1) := by decide +kernel
theorem dX11_differentResults_4 : decode cX11_differentResults 4 = .ok (.iload_n 2, 1) := by decide +kernel
theorem dX11_differentResults_5 : decode cX11_differentResults 5 = .ok (.aload_n 0, 1) := by decide +kernel
theorem dX11_differentResults_6 : decode cX11_differentResults 6 = .ok (.getfield 19, 3) := by decide +kernel
theorem dX11_differentResults_9 : decode cX11_differentResults 9 = .ok (.invokevirtual 153, 3) := by decide +kernel
theorem dX11_differentResults_12 : decode cX11_differentResults 12 = .ok (.invokevirtual 171, 3) := by decide +kernel
theorem dX11_differentResults_15 : decode cX11_differentResults 15 = .ok (.if_icmp .ge 45, 3) := by decide +kernel
theorem dX11_differentResults_18 : decode cX11_differentResults 18 = .ok (.aload_n 0, 1) := by decide +kernel
theorem dX11_differentResults_19 : decode cX11_differentResults 19 = .ok (.getfield 54, 3) := by decide +kernel
theorem dX11_differentResults_22 : decode cX11_differentResults 22 = .ok (.iload_n 2, 1) := by decide +kernel
theorem dX11_differentResults_23 : decode cX11_differentResults 23 = .ok (.aload_n 0, 1) := by decide +kernel
theorem dX11_differentResults_24 : decode cX11_differentResults 24 = .ok (.getfield 50, 3) := by decide +kernel
theorem dX11_differentResults_27 : decode cX11_differentResults 27 = .ok (.aload_n 0, 1) := by decide +kernel
theorem dX11_differentResults_28 : decode cX11_differentResults 28 = .ok (.iload_n 2, 1) := by decide +kernel
theorem dX11_differentResults_29 : decode cX11_differentResults 29 = .ok (.invokevirtual 181, 3) := by decide +kernel
theorem dX11_differentResults_32 : decode cX11_differentResults 32 = .ok (.invokevirtual 190, 3) := by decide +kernel
theorem dX11_differentResults_35 : decode cX11_differentResults 35 = .ok (.aload_n 0, 1) := by decide +kernel
theorem dX11_differentResults_36 : decode cX11_differentResults 36 = .ok (.getfield 19, 3) := by decide +kernel
theorem dX11_differentResults_39 : decode cX11_differentResults 39 = .ok (.invokevirtual 312, 3) := by decide +kernel
theorem dX11_differentResults_42 : decode cX11_differentResults 42 = .ok (.lastore, 1) := by decide +kernel
theorem dX11_differentResults_43 : decode cX11_differentResults 43 = .ok (.aload_n 0, 1) := by decide +kernel
theorem dX11_differentResults_44 : decode cX11_differentResults 44 = .ok (.iload_n 2, 1) := by decide +kernel
theorem dX11_differentResults_45 : decode cX11_differentResults 45 = .ok (.invokevirtual 447, 3) := by decide +kernel
theorem dX11_differentResults_48 : decode cX11_differentResults 48 = .ok (.ifCond .eq 6, 3) := by decide +kernel
theorem dX11_differentResults_51 : decode cX11_differentResults 51 = .ok (.iinc 1 1, 3) := by decide +kernel
theorem dX11_differentResults_54 : decode cX11_differentResults 54 = .ok (.iinc 2 1, 3) := by decide +kernel
theorem dX11_differentResults_57 : decode cX11_differentResults 57 = .ok (.goto (-53), 3) := by decide +kernel
theorem dX11_differentResults_60 : decode cX11_differentResults 60 = .ok (.iload_n 1, 1) := by decide +kernel
theorem dX11_differentResults_61 : decode cX11_differentResults 61 = .ok (.ireturn, 1) := by decide +kernel
theorem dX11_isPlain_0 : decode cX11_isPlain 0 = .ok (.iload_n 0, 1) := by decide +kernel
theorem dX11_isPlain_1 : decode cX11_isPlain 1 = .ok (.bipush 97, 2) := by decide +kernel
theorem dX11_isPlain_3 : decode cX11_isPlain 3 = .ok (.if_icmp .lt 13, 3) := by decide +kernel
theorem dX11_isPlain_6 : decode cX11_isPlain 6 = .ok (.iload_n 0, 1) := by decide +kernel
theorem dX11_isPlain_7 : decode cX11_isPlain 7 = .ok (.bipush 122, 2) := by decide +kernel
theorem dX11_isPlain_9 : decode cX11_isPlain 9 = .ok (.if_icmp .gt 7, 3) := by decide +kernel
theorem dX11_isPlain_12 : decode cX11_isPlain 12 = .ok (.iconst 1, 1) := by decide +kernel
theorem dX11_isPlain_13 : decode cX11_isPlain 13 = .ok (.goto 4, 3) := by decide +kernel
theorem dX11_isPlain_16 : decode cX11_isPlain 16 = .ok (.iconst 0, 1) := by decide +kernel
theorem dX11_isPlain_17 : decode cX11_isPlain 17 = .ok (.ireturn, 1) := by decide +kernel
