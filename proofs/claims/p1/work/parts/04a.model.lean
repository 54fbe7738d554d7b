theorem dX12_init_0 : decode cX12_init 0 = .ok (.aload_n 0, 1) := by decide +kernel
theorem dX12_init_1 : decode cX12_init 1 = .ok (.invokespecial 1, 3) := by decide +kernel
theorem dX12_init_4 : decode cX12_init 4 = .ok (.aload_n 0, 1) := by decide +kernel
theorem dX12_init_5 : decode cX12_init 5 = .ok (.sipush 1191, 3) := by decide +kernel
theorem dX12_init_8 : decode cX12_init 8 = .ok (.newarray .int, 2) := by decide +kernel
theorem dX12_init_10 : decode cX12_init 10 = .ok (.putfield 9, 3) := by decide +kernel
theorem dX12_init_13 : decode cX12_init 13 = .ok (.aload_n 0, 1) := by decide +kernel
theorem dX12_init_14 : decode cX12_init 14 = .ok (.sipush 1191, 3) := by decide +kernel
theorem dX12_init_17 : decode cX12_init 17 = .ok (.newarray .int, 2) := by decide +kernel
theorem dX12_init_19 : decode cX12_init 19 = .ok (.putfield 13, 3) := by decide +kernel
theorem dX12_init_22 : decode cX12_init 22 = .ok (.aload_n 0, 1) := by decide +kernel
theorem dX12_init_23 : decode cX12_init 23 = .ok (.sipush 9528, 3) := by decide +kernel
theorem dX12_init_26 : decode cX12_init 26 = .ok (.newarray .int, 2) := by decide +kernel
theorem dX12_init_28 : decode cX12_init 28 = .ok (.putfield 16, 3) := by decide +kernel
theorem dX12_init_31 : decode cX12_init 31 = .ok (.aload_n 0, 1) := by decide +kernel
theorem dX12_init_32 : decode cX12_init 32 = .ok (.bipush 60, 2) := by decide +kernel
theorem dX12_init_34 : decode cX12_init 34 = .ok (.newarray .int, 2) := by decide +kernel
theorem dX12_init_36 : decode cX12_init 36 = .ok (.putfield 19, 3) := by decide +kernel
theorem dX12_init_39 : decode cX12_init 39 = .ok (.aload_n 0, 1) := by decide +kernel
theorem dX12_init_40 : decode cX12_init 40 = .ok (.bipush 9, 2) := by decide +kernel
theorem dX12_init_42 : decode cX12_init 42 = .ok (.newarray .int, 2) := by decide +kernel
theorem dX12_init_44 : decode cX12_init 44 = .ok (.putfield 22, 3) := by decide +kernel
theorem dX12_init_47 : decode cX12_init 47 = .ok (.aload_n 0, 1) := by decide +kernel
theorem dX12_init_48 : decode cX12_init 48 = .ok (.bipush 6, 2) := by decide +kernel
theorem dX12_init_50 : decode cX12_init 50 = .ok (.newarray .int, 2) := by decide +kernel
theorem dX12_init_52 : decode cX12_init 52 = .ok (.putfield 25, 3) := by decide +kernel
theorem dX12_init_55 : decode cX12_init 55 = .ok (.aload_n 0, 1) := by decide +kernel
theorem dX12_init_56 : decode cX12_init 56 = .ok (.iconst (-1), 1) := by decide +kernel
theorem dX12_init_57 : decode cX12_init 57 = .ok (.putfield 28, 3) := by decide +kernel
theorem dX12_init_60 : decode cX12_init 60 = .ok (.aload_n 0, 1) := by decide +kernel
theorem dX12_init_61 : decode cX12_init 61 = .ok (.sipush 1191, 3) := by decide +kernel
theorem dX12_init_64 : decode cX12_init 64 = .ok (.newarray .int, 2) := by decide +kernel
theorem dX12_init_66 : decode cX12_init 66 = .ok (.putfield 32, 3) := by decide +kernel
theorem dX12_init_69 : decode cX12_init 69 = .ok (.aload_n 0, 1) := by decide +kernel
theorem dX12_init_70 : decode cX12_init 70 = .ok (.bipush 81, 2) := by decide +kernel
theorem dX12_init_72 : decode cX12_init 72 = .ok (.newarray .int, 2) := by decide +kernel
theorem dX12_init_74 : decode cX12_init 74 = .ok (.putfield 35, 3) := by decide +kernel
theorem dX12_init_77 : decode cX12_init 77 = .ok (.aload_n 0, 1) := by decide +kernel
theorem dX12_init_78 : decode cX12_init 78 = .ok (.bipush 9, 2) := by decide +kernel
theorem dX12_init_80 : decode cX12_init 80 = .ok (.newarray .int, 2) := by decide +kernel
theorem dX12_init_82 : decode cX12_init 82 = .ok (.putfield 38, 3) := by decide +kernel
theorem dX12_init_85 : decode cX12_init 85 = .ok (.aload_n 0, 1) := by decide +kernel
theorem dX12_init_86 : decode cX12_init 86 = .ok (.sipush 180, 3) := by decide +kernel
theorem dX12_init_89 : decode cX12_init 89 = .ok (.newarray .int, 2) := by decide +kernel
theorem dX12_init_91 : decode cX12_init 91 = .ok (.putfield 41, 3) := by decide +kernel
theorem dX12_init_94 : decode cX12_init 94 = .ok (.aload_n 0, 1) := by decide +kernel
theorem dX12_init_95 : decode cX12_init 95 = .ok (.sipush 180, 3) := by decide +kernel
theorem dX12_init_98 : decode cX12_init 98 = .ok (.newarray .int, 2) := by decide +kernel
theorem dX12_init_100 : decode cX12_init 100 = .ok (.putfield 44, 3) := by decide +kernel
theorem dX12_init_103 : decode cX12_init 103 = .ok (.aload_n 0, 1) := by decide +kernel
theorem dX12_init_104 : decode cX12_init 104 = .ok (.bipush 60, 2) := by decide +kernel
theorem dX12_init_106 : decode cX12_init 106 = .ok (.newarray .int, 2) := by decide +kernel
theorem dX12_init_108 : decode cX12_init 108 = .ok (.putfield 47, 3) := by decide +kernel
theorem dX12_init_111 : decode cX12_init 111 = .ok (.aload_n 0, 1) := by decide +kernel
theorem dX12_init_112 : decode cX12_init 112 = .ok (.bipush 60, 2) := by decide +kernel
theorem dX12_init_114 : decode cX12_init 114 = .ok (.newarray .int, 2) := by decide +kernel
theorem dX12_init_116 : decode cX12_init 116 = .ok (.putfield 50, 3) := by decide +kernel
theorem dX12_init_119 : decode cX12_init 119 = .ok (.aload_n 0, 1) := by decide +kernel
theorem dX12_init_120 : decode cX12_init 120 = .ok (.bipush 60, 2) := by decide +kernel
theorem dX12_init_122 : decode cX12_init 122 = .ok (.newarray .int, 2) := by decide +kernel
theorem dX12_init_124 : decode cX12_init 124 = .ok (.putfield 53, 3) := by decide +kernel
theorem dX12_init_127 : decode cX12_init 127 = .ok (.aload_n 0, 1) := by decide +kernel
theorem dX12_init_128 : decode cX12_init 128 = .ok (.bipush 60, 2) := by decide +kernel
theorem dX12_init_130 : decode cX12_init 130 = .ok (.newarray .int, 2) := by decide +kernel
theorem dX12_init_132 : decode cX12_init 132 = .ok (.putfield 56, 3) := by decide +kernel
theorem dX12_init_135 : decode cX12_init 135 = .ok (.aload_n 0, 1) := by decide +kernel
theorem dX12_init_136 : decode cX12_init 136 = .ok (.bipush 60, 2) := by decide +kernel
theorem dX12_init_138 : decode cX12_init 138 = .ok (.newarray .int, 2) := by decide +kernel
theorem dX12_init_140 : decode cX12_init 140 = .ok (.putfield 59, 3) := by decide +kernel
theorem dX12_init_143 : decode cX12_init 143 = .ok (.aload_n 0, 1) := by decide +kernel
theorem dX12_init_144 : decode cX12_init 144 = .ok (.getfield 9, 3) := by decide +kernel
theorem dX12_init_147 : decode cX12_init 147 = .ok (.iconst 0, 1) := by decide +kernel
theorem dX12_init_148 : decode cX12_init 148 = .ok (.bipush 26, 2) := by decide +kernel
theorem dX12_init_150 : decode cX12_init 150 = .ok (.iastore, 1) := by decide +kernel
theorem dX12_init_151 : decode cX12_init 151 = .ok (.iconst 0, 1) := by decide +kernel
theorem dX12_init_152 : decode cX12_init 152 = .ok (.istore_n 1, 1) := by decide +kernel
theorem dX12_init_153 : decode cX12_init 153 = .ok (.iload_n 1, 1) := by decide +kernel
theorem dX12_init_154 : decode cX12_init 154 = .ok (.bipush 26, 2) := by decide +kernel
theorem dX12_init_156 : decode cX12_init 156 = .ok (.if_icmp .ge 21, 3) := by decide +kernel
theorem dX12_init_159 : decode cX12_init 159 = .ok (.aload_n 0, 1) := by decide +kernel
theorem dX12_init_160 : decode cX12_init 160 = .ok (.getfield 9, 3) := by decide +kernel
theorem dX12_init_163 : decode cX12_init 163 = .ok (.iconst 1, 1) := by decide +kernel
theorem dX12_init_164 : decode cX12_init 164 = .ok (.iload_n 1, 1) := by decide +kernel
theorem dX12_init_165 : decode cX12_init 165 = .ok (.iadd, 1) := by decide +kernel
theorem dX12_init_166 : decode cX12_init 166 = .ok (.bipush 97, 2) := by decide +kernel
theorem dX12_init_168 : decode cX12_init 168 = .ok (.iload_n 1, 1) := by decide +kernel
theorem dX12_init_169 : decode cX12_init 169 = .ok (.iadd, 1) := by decide +kernel
theorem dX12_init_170 : decode cX12_init 170 = .ok (.iastore, 1) := by decide +kernel
theorem dX12_init_171 : decode cX12_init 171 = .ok (.iinc 1 1, 3) := by decide +kernel
theorem dX12_init_174 : decode cX12_init 174 = .ok (.goto (-21), 3) := by decide +kernel
theorem dX12_init_177 : decode cX12_init 177 = .ok (.return_, 1) := by decide +kernel
theorem dX12_thrown_0 : decode cX12_thrown 0 = .ok (.aload_n 0, 1) := by decide +kernel
theorem dX12_thrown_1 : decode cX12_thrown 1 = .ok (.getfield 62, 3) := by decide +kernel
theorem dX12_thrown_4 : decode cX12_thrown 4 = .ok (.ireturn, 1) := by decide +kernel
theorem dX12_in_0 : decode cX12_in 0 = .ok (.iload_n 0, 1) := by decide +kernel
theorem dX12_in_1 : decode cX12_in 1 = .ok (.iload_n 1, 1) := by decide +kernel
theorem dX12_in_2 : decode cX12_in 2 = .ok (.if_icmp .lt 12, 3) := by decide +kernel
theorem dX12_in_5 : decode cX12_in 5 = .ok (.iload_n 0, 1) := by decide +kernel
theorem dX12_in_6 : decode cX12_in 6 = .ok (.iload_n 2, 1) := by decide +kernel
theorem dX12_in_7 : decode cX12_in 7 = .ok (.if_icmp .gt 7, 3) := by decide +kernel
theorem dX12_in_10 : decode cX12_in 10 = .ok (.iconst 1, 1) := by decide +kernel
theorem dX12_in_11 : decode cX12_in 11 = .ok (.goto 4, 3) := by decide +kernel
theorem dX12_in_14 : decode cX12_in 14 = .ok (.iconst 0, 1) := by decide +kernel
theorem dX12_in_15 : decode cX12_in 15 = .ok (.ireturn, 1) := by decide +kernel
theorem dX12_refuse_0 : decode cX12_refuse 0 = .ok (.aload_n 0, 1) := by decide +kernel
theorem dX12_refuse_1 : decode cX12_refuse 1 = .ok (.iload_n 1, 1) := by decide +kernel
theorem dX12_refuse_2 : decode cX12_refuse 2 = .ok (.putfield 62, 3) := by decide +kernel
theorem dX12_refuse_5 : decode cX12_refuse 5 = .ok (.iconst 0, 1) := by decide +kernel
theorem dX12_refuse_6 : decode cX12_refuse 6 = .ok (.ireturn, 1) := by decide +kernel
theorem dX12_keepRow_0 : decode cX12_keepRow 0 = .ok (.aload_n 0, 1) := by decide +kernel
theorem dX12_keepRow_1 : decode cX12_keepRow 1 = .ok (.getfield 65, 3) := by decide +kernel
theorem dX12_keepRow_4 : decode cX12_keepRow 4 = .ok (.bipush 8, 2) := by decide +kernel
theorem dX12_keepRow_6 : decode cX12_keepRow 6 = .ok (.if_icmp .ne 44, 3) := by decide +kernel
theorem dX12_keepRow_9 : decode cX12_keepRow 9 = .ok (.iconst 0, 1) := by decide +kernel
theorem dX12_keepRow_10 : decode cX12_keepRow 10 = .ok (.istore_n 2, 1) := by decide +kernel
theorem dX12_keepRow_11 : decode cX12_keepRow 11 = .ok (.iload_n 2, 1) := by decide +kernel
theorem dX12_keepRow_12 : decode cX12_keepRow 12 = .ok (.sipush 8337, 3) := by decide +kernel
theorem dX12_keepRow_15 : decode cX12_keepRow 15 = .ok (.if_icmp .ge 25, 3) := by decide +kernel
theorem dX12_keepRow_18 : decode cX12_keepRow 18 = .ok (.aload_n 0, 1) := by decide +kernel
theorem dX12_keepRow_19 : decode cX12_keepRow 19 = .ok (.getfield 16, 3) := by decide +kernel
theorem dX12_keepRow_22 : decode cX12_keepRow 22 = .ok (.iload_n 2, 1) := by decide +kernel
theorem dX12_keepRow_23 : decode cX12_keepRow 23 = .ok (.aload_n 0, 1) := by decide +kernel
theorem dX12_keepRow_24 : decode cX12_keepRow 24 = .ok (.getfield 16, 3) := by decide +kernel
theorem dX12_keepRow_27 : decode cX12_keepRow 27 = .ok (.iload_n 2, 1) := by decide +kernel
theorem dX12_keepRow_28 : decode cX12_keepRow 28 = .ok (.sipush 1191, 3) := by decide +kernel
theorem dX12_keepRow_31 : decode cX12_keepRow 31 = .ok (.iadd, 1) := by decide +kernel
theorem dX12_keepRow_32 : decode cX12_keepRow 32 = .ok (.iaload, 1) := by decide +kernel
theorem dX12_keepRow_33 : decode cX12_keepRow 33 = .ok (.iastore, 1) := by decide +kernel
theorem dX12_keepRow_34 : decode cX12_keepRow 34 = .ok (.iinc 2 1, 3) := by decide +kernel
theorem dX12_keepRow_37 : decode cX12_keepRow 37 = .ok (.goto (-26), 3) := by decide +kernel
theorem dX12_keepRow_40 : decode cX12_keepRow 40 = .ok (.aload_n 0, 1) := by decide +kernel
theorem dX12_keepRow_41 : decode cX12_keepRow 41 = .ok (.dup, 1) := by decide +kernel
theorem dX12_keepRow_42 : decode cX12_keepRow 42 = .ok (.getfield 65, 3) := by decide +kernel
theorem dX12_keepRow_45 : decode cX12_keepRow 45 = .ok (.iconst 1, 1) := by decide +kernel
theorem dX12_keepRow_46 : decode cX12_keepRow 46 = .ok (.isub, 1) := by decide +kernel
theorem dX12_keepRow_47 : decode cX12_keepRow 47 = .ok (.putfield 65, 3) := by decide +kernel
theorem dX12_keepRow_50 : decode cX12_keepRow 50 = .ok (.iconst 0, 1) := by decide +kernel
theorem dX12_keepRow_51 : decode cX12_keepRow 51 = .ok (.istore_n 2, 1) := by decide +kernel
theorem dX12_keepRow_52 : decode cX12_keepRow 52 = .ok (.iload_n 2, 1) := by decide +kernel
theorem dX12_keepRow_53 : decode cX12_keepRow 53 = .ok (.sipush 1191, 3) := by decide +kernel
theorem dX12_keepRow_56 : decode cX12_keepRow 56 = .ok (.if_icmp .ge 27, 3) := by decide +kernel
theorem dX12_keepRow_59 : decode cX12_keepRow 59 = .ok (.aload_n 0, 1) := by decide +kernel
theorem dX12_keepRow_60 : decode cX12_keepRow 60 = .ok (.getfield 16, 3) := by decide +kernel
theorem dX12_keepRow_63 : decode cX12_keepRow 63 = .ok (.sipush 1191, 3) := by decide +kernel
theorem dX12_keepRow_66 : decode cX12_keepRow 66 = .ok (.aload_n 0, 1) := by decide +kernel
theorem dX12_keepRow_67 : decode cX12_keepRow 67 = .ok (.getfield 65, 3) := by decide +kernel
theorem dX12_keepRow_70 : decode cX12_keepRow 70 = .ok (.imul, 1) := by decide +kernel
theorem dX12_keepRow_71 : decode cX12_keepRow 71 = .ok (.iload_n 2, 1) := by decide +kernel
theorem dX12_keepRow_72 : decode cX12_keepRow 72 = .ok (.iadd, 1) := by decide +kernel
theorem dX12_keepRow_73 : decode cX12_keepRow 73 = .ok (.aload_n 1, 1) := by decide +kernel
theorem dX12_keepRow_74 : decode cX12_keepRow 74 = .ok (.iload_n 2, 1) := by decide +kernel
theorem dX12_keepRow_75 : decode cX12_keepRow 75 = .ok (.iaload, 1) := by decide +kernel
theorem dX12_keepRow_76 : decode cX12_keepRow 76 = .ok (.iastore, 1) := by decide +kernel
theorem dX12_keepRow_77 : decode cX12_keepRow 77 = .ok (.iinc 2 1, 3) := by decide +kernel
theorem dX12_keepRow_80 : decode cX12_keepRow 80 = .ok (.goto (-28), 3) := by decide +kernel
theorem dX12_keepRow_83 : decode cX12_keepRow 83 = .ok (.aload_n 0, 1) := by decide +kernel
theorem dX12_keepRow_84 : decode cX12_keepRow 84 = .ok (.dup, 1) := by decide +kernel
theorem dX12_keepRow_85 : decode cX12_keepRow 85 = .ok (.getfield 65, 3) := by decide +kernel
theorem dX12_keepRow_88 : decode cX12_keepRow 88 = .ok (.iconst 1, 1) := by decide +kernel
theorem dX12_keepRow_89 : decode cX12_keepRow 89 = .ok (.iadd, 1) := by decide +kernel
theorem dX12_keepRow_90 : decode cX12_keepRow 90 = .ok (.putfield 65, 3) := by decide +kernel
theorem dX12_keepRow_93 : decode cX12_keepRow 93 = .ok (.return_, 1) := by decide +kernel
set_option maxRecDepth 20000 in
theorem ggX12_keep_X12_keepRow : GoodIn wsX12_keep wsX12_keepRow := goodIn_ca (goodIn_r _ [6, 7, 8, 9, 10, 11, 12, 13, 14, 15, 16, 17, 18, 19, 20, 21, 22, 23, 24, 25, 26, 27, 28, 29, 30, 31, 32, 33, 34, 35] (by decide +kernel) (by decide +kernel)) (goodIn_sub (fun _ h => List.mem_cons_of_mem _ (List.mem_append_right _ h)) (by decide +kernel))
set_option maxRecDepth 20000 in
theorem gX12_keep_X12_keepRow : GoodIn wsX12_keep (wsV RX12 68 RX12 yX12_keepRow wsX12_keepRow) := goodIn_app (goodIn_of _ (by decide +kernel)) ggX12_keep_X12_keepRow
theorem dX12_keep_0 : decode cX12_keep 0 = .ok (.aload_n 0, 1) := by decide +kernel
theorem dX12_keep_1 : decode cX12_keep 1 = .ok (.aload_n 0, 1) := by decide +kernel
theorem dX12_keep_2 : decode cX12_keep 2 = .ok (.getfield 9, 3) := by decide +kernel
theorem dX12_keep_5 : decode cX12_keep 5 = .ok (.invokevirtual 68, 3) := by decide +kernel
theorem dX12_keep_8 : decode cX12_keep 8 = .ok (.return_, 1) := by decide +kernel
set_option maxRecDepth 20000 in
theorem ggX12_isSmall_X12_in : GoodIn wsX12_isSmall wsX12_in := goodIn_r _ [4] (by decide +kernel) (by decide +kernel)
set_option maxRecDepth 20000 in
theorem gX12_isSmall_X12_in : GoodIn wsX12_isSmall (va_wsS RX12 72 yX12_in wsX12_in) := goodIn_app (goodIn_of _ (by decide +kernel)) ggX12_isSmall_X12_in
theorem dX12_isSmall_0 : decode cX12_isSmall 0 = .ok (.iload_n 0, 1) := by decide +kernel
theorem dX12_isSmall_1 : decode cX12_isSmall 1 = .ok (.bipush 97, 2) := by decide +kernel
theorem dX12_isSmall_3 : decode cX12_isSmall 3 = .ok (.bipush 122, 2) := by decide +kernel
theorem dX12_isSmall_5 : decode cX12_isSmall 5 = .ok (.invokestatic 72, 3) := by decide +kernel
theorem dX12_isSmall_8 : decode cX12_isSmall 8 = .ok (.ireturn, 1) := by decide +kernel
set_option maxRecDepth 20000 in
theorem ggX12_feed_X12_refuse : GoodIn wsX12_feed wsX12_refuse := goodIn_r _ [8, 1, 9, 10, 11, 12, 13, 14, 15, 16, 17, 18, 19, 20, 21, 22, 23, 24, 25, 26, 27, 28, 29, 30, 31, 32, 33, 34, 35] (by decide +kernel) (by decide +kernel)
set_option maxRecDepth 20000 in
theorem gX12_feed_X12_refuse : GoodIn wsX12_feed (wsV RX12 79 RX12 yX12_refuse wsX12_refuse) := goodIn_app (goodIn_of _ (by decide +kernel)) ggX12_feed_X12_refuse
theorem dX12_feed_0 : decode cX12_feed 0 = .ok (.aload_n 0, 1) := by decide +kernel
theorem dX12_feed_1 : decode cX12_feed 1 = .ok (.iconst 0, 1) := by decide +kernel
theorem dX12_feed_2 : decode cX12_feed 2 = .ok (.putfield 62, 3) := by decide +kernel
theorem dX12_feed_5 : decode cX12_feed 5 = .ok (.aload_n 0, 1) := by decide +kernel
theorem dX12_feed_6 : decode cX12_feed 6 = .ok (.getfield 76, 3) := by decide +kernel
theorem dX12_feed_9 : decode cX12_feed 9 = .ok (.bipush 60, 2) := by decide +kernel
theorem dX12_feed_11 : decode cX12_feed 11 = .ok (.if_icmp .ne 9, 3) := by decide +kernel
theorem dX12_feed_14 : decode cX12_feed 14 = .ok (.aload_n 0, 1) := by decide +kernel
theorem dX12_feed_15 : decode cX12_feed 15 = .ok (.iconst 1, 1) := by decide +kernel
theorem dX12_feed_16 : decode cX12_feed 16 = .ok (.invokevirtual 79, 3) := by decide +kernel
theorem dX12_feed_19 : decode cX12_feed 19 = .ok (.ireturn, 1) := by decide +kernel
theorem dX12_feed_20 : decode cX12_feed 20 = .ok (.aload_n 0, 1) := by decide +kernel
theorem dX12_feed_21 : decode cX12_feed 21 = .ok (.getfield 19, 3) := by decide +kernel
theorem dX12_feed_24 : decode cX12_feed 24 = .ok (.aload_n 0, 1) := by decide +kernel
theorem dX12_feed_25 : decode cX12_feed 25 = .ok (.getfield 76, 3) := by decide +kernel
theorem dX12_feed_28 : decode cX12_feed 28 = .ok (.iload_n 1, 1) := by decide +kernel
theorem dX12_feed_29 : decode cX12_feed 29 = .ok (.iastore, 1) := by decide +kernel
theorem dX12_feed_30 : decode cX12_feed 30 = .ok (.aload_n 0, 1) := by decide +kernel
theorem dX12_feed_31 : decode cX12_feed 31 = .ok (.dup, 1) := by decide +kernel
theorem dX12_feed_32 : decode cX12_feed 32 = .ok (.getfield 76, 3) := by decide +kernel
theorem dX12_feed_35 : decode cX12_feed 35 = .ok (.iconst 1, 1) := by decide +kernel
theorem dX12_feed_36 : decode cX12_feed 36 = .ok (.iadd, 1) := by decide +kernel
theorem dX12_feed_37 : decode cX12_feed 37 = .ok (.putfield 76, 3) := by decide +kernel
theorem dX12_feed_40 : decode cX12_feed 40 = .ok (.aload_n 0, 1) := by decide +kernel
theorem dX12_feed_41 : decode cX12_feed 41 = .ok (.getfield 76, 3) := by decide +kernel
theorem dX12_feed_44 : decode cX12_feed 44 = .ok (.ireturn, 1) := by decide +kernel
theorem dX12_placeOf_0 : decode cX12_placeOf 0 = .ok (.iconst 0, 1) := by decide +kernel
theorem dX12_placeOf_1 : decode cX12_placeOf 1 = .ok (.istore_n 2, 1) := by decide +kernel
theorem dX12_placeOf_2 : decode cX12_placeOf 2 = .ok (.iload_n 2, 1) := by decide +kernel
theorem dX12_placeOf_3 : decode cX12_placeOf 3 = .ok (.aload_n 0, 1) := by decide +kernel
theorem dX12_placeOf_4 : decode cX12_placeOf 4 = .ok (.getfield 9, 3) := by decide +kernel
theorem dX12_placeOf_7 : decode cX12_placeOf 7 = .ok (.iconst 0, 1) := by decide +kernel
theorem dX12_placeOf_8 : decode cX12_placeOf 8 = .ok (.iaload, 1) := by decide +kernel
theorem dX12_placeOf_9 : decode cX12_placeOf 9 = .ok (.if_icmp .ge 23, 3) := by decide +kernel
theorem dX12_placeOf_12 : decode cX12_placeOf 12 = .ok (.aload_n 0, 1) := by decide +kernel
theorem dX12_placeOf_13 : decode cX12_placeOf 13 = .ok (.getfield 9, 3) := by decide +kernel
theorem dX12_placeOf_16 : decode cX12_placeOf 16 = .ok (.iconst 1, 1) := by decide +kernel
theorem dX12_placeOf_17 : decode cX12_placeOf 17 = .ok (.iload_n 2, 1) := by decide +kernel
theorem dX12_placeOf_18 : decode cX12_placeOf 18 = .ok (.iadd, 1) := by decide +kernel
theorem dX12_placeOf_19 : decode cX12_placeOf 19 = .ok (.iaload, 1) := by decide +kernel
theorem dX12_placeOf_20 : decode cX12_placeOf 20 = .ok (.iload_n 1, 1) := by decide +kernel
theorem dX12_placeOf_21 : decode cX12_placeOf 21 = .ok (.if_icmp .ne 5, 3) := by decide +kernel
theorem dX12_placeOf_24 : decode cX12_placeOf 24 = .ok (.iload_n 2, 1) := by decide +kernel
theorem dX12_placeOf_25 : decode cX12_placeOf 25 = .ok (.ireturn, 1) := by decide +kernel
theorem dX12_placeOf_26 : decode cX12_placeOf 26 = .ok (.iinc 2 1, 3) := by decide +kernel
theorem dX12_placeOf_29 : decode cX12_placeOf 29 = .ok (.goto (-27), 3) := by decide +kernel
theorem dX12_placeOf_32 : decode cX12_placeOf 32 = .ok (.iconst (-1), 1) := by decide +kernel
theorem dX12_placeOf_33 : decode cX12_placeOf 33 = .ok (.ireturn, 1) := by decide +kernel
set_option maxRecDepth 20000 in
theorem ggX12_isLetterPlace_X12_in : GoodIn wsX12_isLetterPlace wsX12_in := goodIn_r _ [5] (by decide +kernel) (by decide +kernel)
set_option maxRecDepth 20000 in
theorem gX12_isLetterPlace_X12_in : GoodIn wsX12_isLetterPlace (va_wsS RX12 72 yX12_in wsX12_in) := goodIn_app (goodIn_of _ (by decide +kernel)) ggX12_isLetterPlace_X12_in
theorem dX12_isLetterPlace_0 : decode cX12_isLetterPlace 0 = .ok (.iload_n 1, 1) := by decide +kernel
theorem dX12_isLetterPlace_1 : decode cX12_isLetterPlace 1 = .ok (.iconst 0, 1) := by decide +kernel
theorem dX12_isLetterPlace_2 : decode cX12_isLetterPlace 2 = .ok (.aload_n 0, 1) := by decide +kernel
theorem dX12_isLetterPlace_3 : decode cX12_isLetterPlace 3 = .ok (.getfield 9, 3) := by decide +kernel
theorem dX12_isLetterPlace_6 : decode cX12_isLetterPlace 6 = .ok (.iconst 0, 1) := by decide +kernel
theorem dX12_isLetterPlace_7 : decode cX12_isLetterPlace 7 = .ok (.iaload, 1) := by decide +kernel
theorem dX12_isLetterPlace_8 : decode cX12_isLetterPlace 8 = .ok (.iconst 1, 1) := by decide +kernel
theorem dX12_isLetterPlace_9 : decode cX12_isLetterPlace 9 = .ok (.isub, 1) := by decide +kernel
theorem dX12_isLetterPlace_10 : decode cX12_isLetterPlace 10 = .ok (.invokestatic 72, 3) := by decide +kernel
theorem dX12_isLetterPlace_13 : decode cX12_isLetterPlace 13 = .ok (.ireturn, 1) := by decide +kernel
set_option maxRecDepth 20000 in
theorem ggX12_addLetter_X12_isSmall : GoodIn wsX12_addLetter wsX12_isSmall := goodIn_r _ [6, 7, 8, 5, 9] (by decide +kernel) (by decide +kernel)
set_option maxRecDepth 20000 in
theorem gX12_addLetter_X12_isSmall : GoodIn wsX12_addLetter (va_wsS RX12 83 yX12_isSmall wsX12_isSmall) := goodIn_app (goodIn_of _ (by decide +kernel)) ggX12_addLetter_X12_isSmall
set_option maxRecDepth 20000 in
theorem ggX12_addLetter_X12_placeOf : GoodIn wsX12_addLetter wsX12_placeOf := goodIn_ca (goodIn_r _ [13, 2, 28, 29, 30, 31, 32, 33, 34, 35, 36, 37, 38, 39, 40, 41, 42, 43, 44, 45, 46, 47, 48, 49, 50, 51, 52, 53, 54] (by decide +kernel) (by decide +kernel)) (goodIn_sub (fun _ h => List.mem_cons_of_mem _ (List.mem_append_right _ h)) (by decide +kernel))
set_option maxRecDepth 20000 in
theorem gX12_addLetter_X12_placeOf : GoodIn wsX12_addLetter (wsV RX12 87 RX12 yX12_placeOf wsX12_placeOf) := goodIn_app (goodIn_of _ (by decide +kernel)) ggX12_addLetter_X12_placeOf
set_option maxRecDepth 20000 in
theorem ggX12_addLetter_X12_refuse : GoodIn wsX12_addLetter wsX12_refuse := goodIn_r _ [17, 1, 28, 29, 30, 31, 32, 33, 34, 35, 36, 37, 38, 39, 40, 41, 42, 43, 44, 45, 46, 47, 48, 49, 50, 51, 52, 53, 54] (by decide +kernel) (by decide +kernel)
set_option maxRecDepth 20000 in
theorem gX12_addLetter_X12_refuse : GoodIn wsX12_addLetter (wsV RX12 79 RX12 yX12_refuse wsX12_refuse) := goodIn_app (goodIn_of _ (by decide +kernel)) ggX12_addLetter_X12_refuse
set_option maxRecDepth 20000 in
theorem ggX12_addLetter_X12_in : GoodIn wsX12_addLetter wsX12_in := goodIn_r _ [9] (by decide +kernel) (by decide +kernel)
set_option maxRecDepth 20000 in
theorem gX12_addLetter_X12_in : GoodIn wsX12_addLetter (va_wsS RX12 72 yX12_in wsX12_in) := goodIn_app (goodIn_of _ (by decide +kernel)) ggX12_addLetter_X12_in
set_option maxRecDepth 20000 in
theorem ggX12_addLetter_X12_keep : GoodIn wsX12_addLetter wsX12_keep := goodIn_ca (goodIn_r _ [21, 2, 22, 23, 24, 5, 25, 26, 27, 28, 29, 30, 31, 32, 33, 34, 35, 36, 37, 38, 39, 40, 41, 42, 43, 44, 45, 46, 47, 48, 49, 50, 51, 52, 53, 54] (by decide +kernel) (by decide +kernel)) (goodIn_sub (fun _ h => List.mem_cons_of_mem _ (List.mem_append_right _ h)) (by decide +kernel))
set_option maxRecDepth 20000 in
theorem gX12_addLetter_X12_keep : GoodIn wsX12_addLetter (wsV RX12 90 RX12 yX12_keep wsX12_keep) := goodIn_app (goodIn_of _ (by decide +kernel)) ggX12_addLetter_X12_keep
theorem dX12_addLetter_0 : decode cX12_addLetter 0 = .ok (.aload_n 0, 1) := by decide +kernel
theorem dX12_addLetter_1 : decode cX12_addLetter 1 = .ok (.iconst 0, 1) := by decide +kernel
theorem dX12_addLetter_2 : decode cX12_addLetter 2 = .ok (.putfield 62, 3) := by decide +kernel
theorem dX12_addLetter_5 : decode cX12_addLetter 5 = .ok (.sipush 128, 3) := by decide +kernel
theorem dX12_addLetter_8 : decode cX12_addLetter 8 = .ok (.iload_n 1, 1) := by decide +kernel
theorem dX12_addLetter_9 : decode cX12_addLetter 9 = .ok (.imul, 1) := by decide +kernel
theorem dX12_addLetter_10 : decode cX12_addLetter 10 = .ok (.iload_n 2, 1) := by decide +kernel
theorem dX12_addLetter_11 : decode cX12_addLetter 11 = .ok (.iadd, 1) := by decide +kernel
theorem dX12_addLetter_12 : decode cX12_addLetter 12 = .ok (.istore 4, 2) := by decide +kernel
theorem dX12_addLetter_14 : decode cX12_addLetter 14 = .ok (.iload_n 1, 1) := by decide +kernel
theorem dX12_addLetter_15 : decode cX12_addLetter 15 = .ok (.invokestatic 83, 3) := by decide +kernel
theorem dX12_addLetter_18 : decode cX12_addLetter 18 = .ok (.ifCond .eq 19, 3) := by decide +kernel
theorem dX12_addLetter_21 : decode cX12_addLetter 21 = .ok (.iload_n 2, 1) := by decide +kernel
theorem dX12_addLetter_22 : decode cX12_addLetter 22 = .ok (.invokestatic 83, 3) := by decide +kernel
theorem dX12_addLetter_25 : decode cX12_addLetter 25 = .ok (.ifCond .eq 12, 3) := by decide +kernel
theorem dX12_addLetter_28 : decode cX12_addLetter 28 = .ok (.aload_n 0, 1) := by decide +kernel
theorem dX12_addLetter_29 : decode cX12_addLetter 29 = .ok (.iload 4, 2) := by decide +kernel
theorem dX12_addLetter_31 : decode cX12_addLetter 31 = .ok (.invokevirtual 87, 3) := by decide +kernel
theorem dX12_addLetter_34 : decode cX12_addLetter 34 = .ok (.ifCond .lt 9, 3) := by decide +kernel
theorem dX12_addLetter_37 : decode cX12_addLetter 37 = .ok (.aload_n 0, 1) := by decide +kernel
theorem dX12_addLetter_38 : decode cX12_addLetter 38 = .ok (.iconst 1, 1) := by decide +kernel
theorem dX12_addLetter_39 : decode cX12_addLetter 39 = .ok (.invokevirtual 79, 3) := by decide +kernel
theorem dX12_addLetter_42 : decode cX12_addLetter 42 = .ok (.ireturn, 1) := by decide +kernel
theorem dX12_addLetter_43 : decode cX12_addLetter 43 = .ok (.iload_n 3, 1) := by decide +kernel
theorem dX12_addLetter_44 : decode cX12_addLetter 44 = .ok (.iconst 0, 1) := by decide +kernel
theorem dX12_addLetter_45 : decode cX12_addLetter 45 = .ok (.aload_n 0, 1) := by decide +kernel
theorem dX12_addLetter_46 : decode cX12_addLetter 46 = .ok (.getfield 9, 3) := by decide +kernel
theorem dX12_addLetter_49 : decode cX12_addLetter 49 = .ok (.iconst 0, 1) := by decide +kernel
theorem dX12_addLetter_50 : decode cX12_addLetter 50 = .ok (.iaload, 1) := by decide +kernel
theorem dX12_addLetter_51 : decode cX12_addLetter 51 = .ok (.invokestatic 72, 3) := by decide +kernel
theorem dX12_addLetter_54 : decode cX12_addLetter 54 = .ok (.ifCond .ne 9, 3) := by decide +kernel
theorem dX12_addLetter_57 : decode cX12_addLetter 57 = .ok (.aload_n 0, 1) := by decide +kernel
theorem dX12_addLetter_58 : decode cX12_addLetter 58 = .ok (.iconst 2, 1) := by decide +kernel
theorem dX12_addLetter_59 : decode cX12_addLetter 59 = .ok (.invokevirtual 79, 3) := by decide +kernel
theorem dX12_addLetter_62 : decode cX12_addLetter 62 = .ok (.ireturn, 1) := by decide +kernel
theorem dX12_addLetter_63 : decode cX12_addLetter 63 = .ok (.aload_n 0, 1) := by decide +kernel
theorem dX12_addLetter_64 : decode cX12_addLetter 64 = .ok (.getfield 9, 3) := by decide +kernel
theorem dX12_addLetter_67 : decode cX12_addLetter 67 = .ok (.iconst 0, 1) := by decide +kernel
theorem dX12_addLetter_68 : decode cX12_addLetter 68 = .ok (.iaload, 1) := by decide +kernel
theorem dX12_addLetter_69 : decode cX12_addLetter 69 = .ok (.bipush 36, 2) := by decide +kernel
theorem dX12_addLetter_71 : decode cX12_addLetter 71 = .ok (.if_icmp .ne 9, 3) := by decide +kernel
theorem dX12_addLetter_74 : decode cX12_addLetter 74 = .ok (.aload_n 0, 1) := by decide +kernel
theorem dX12_addLetter_75 : decode cX12_addLetter 75 = .ok (.iconst 3, 1) := by decide +kernel
theorem dX12_addLetter_76 : decode cX12_addLetter 76 = .ok (.invokevirtual 79, 3) := by decide +kernel
theorem dX12_addLetter_79 : decode cX12_addLetter 79 = .ok (.ireturn, 1) := by decide +kernel
theorem dX12_addLetter_80 : decode cX12_addLetter 80 = .ok (.aload_n 0, 1) := by decide +kernel
theorem dX12_addLetter_81 : decode cX12_addLetter 81 = .ok (.invokevirtual 90, 3) := by decide +kernel
theorem dX12_addLetter_84 : decode cX12_addLetter 84 = .ok (.aload_n 0, 1) := by decide +kernel
theorem dX12_addLetter_85 : decode cX12_addLetter 85 = .ok (.getfield 9, 3) := by decide +kernel
theorem dX12_addLetter_88 : decode cX12_addLetter 88 = .ok (.iconst 0, 1) := by decide +kernel
theorem dX12_addLetter_89 : decode cX12_addLetter 89 = .ok (.iaload, 1) := by decide +kernel
theorem dX12_addLetter_90 : decode cX12_addLetter 90 = .ok (.istore 5, 2) := by decide +kernel
theorem dX12_addLetter_92 : decode cX12_addLetter 92 = .ok (.iload 5, 2) := by decide +kernel
theorem dX12_addLetter_94 : decode cX12_addLetter 94 = .ok (.iload_n 3, 1) := by decide +kernel
theorem dX12_addLetter_95 : decode cX12_addLetter 95 = .ok (.if_icmp .le 29, 3) := by decide +kernel
theorem dX12_addLetter_98 : decode cX12_addLetter 98 = .ok (.aload_n 0, 1) := by decide +kernel
theorem dX12_addLetter_99 : decode cX12_addLetter 99 = .ok (.getfield 9, 3) := by decide +kernel
theorem dX12_addLetter_102 : decode cX12_addLetter 102 = .ok (.iconst 1, 1) := by decide +kernel
theorem dX12_addLetter_103 : decode cX12_addLetter 103 = .ok (.iload 5, 2) := by decide +kernel
theorem dX12_addLetter_105 : decode cX12_addLetter 105 = .ok (.iadd, 1) := by decide +kernel
theorem dX12_addLetter_106 : decode cX12_addLetter 106 = .ok (.aload_n 0, 1) := by decide +kernel
theorem dX12_addLetter_107 : decode cX12_addLetter 107 = .ok (.getfield 9, 3) := by decide +kernel
theorem dX12_addLetter_110 : decode cX12_addLetter 110 = .ok (.iconst 1, 1) := by decide +kernel
theorem dX12_addLetter_111 : decode cX12_addLetter 111 = .ok (.iload 5, 2) := by decide +kernel
theorem dX12_addLetter_113 : decode cX12_addLetter 113 = .ok (.iadd, 1) := by decide +kernel
theorem dX12_addLetter_114 : decode cX12_addLetter 114 = .ok (.iconst 1, 1) := by decide +kernel
theorem dX12_addLetter_115 : decode cX12_addLetter 115 = .ok (.isub, 1) := by decide +kernel
theorem dX12_addLetter_116 : decode cX12_addLetter 116 = .ok (.iaload, 1) := by decide +kernel
theorem dX12_addLetter_117 : decode cX12_addLetter 117 = .ok (.iastore, 1) := by decide +kernel
theorem dX12_addLetter_118 : decode cX12_addLetter 118 = .ok (.iinc 5 (-1), 3) := by decide +kernel
theorem dX12_addLetter_121 : decode cX12_addLetter 121 = .ok (.goto (-29), 3) := by decide +kernel
theorem dX12_addLetter_124 : decode cX12_addLetter 124 = .ok (.aload_n 0, 1) := by decide +kernel
theorem dX12_addLetter_125 : decode cX12_addLetter 125 = .ok (.getfield 9, 3) := by decide +kernel
theorem dX12_addLetter_128 : decode cX12_addLetter 128 = .ok (.iconst 1, 1) := by decide +kernel
theorem dX12_addLetter_129 : decode cX12_addLetter 129 = .ok (.iload_n 3, 1) := by decide +kernel
theorem dX12_addLetter_130 : decode cX12_addLetter 130 = .ok (.iadd, 1) := by decide +kernel
theorem dX12_addLetter_131 : decode cX12_addLetter 131 = .ok (.iload 4, 2) := by decide +kernel
theorem dX12_addLetter_133 : decode cX12_addLetter 133 = .ok (.iastore, 1) := by decide +kernel
theorem dX12_addLetter_134 : decode cX12_addLetter 134 = .ok (.aload_n 0, 1) := by decide +kernel
theorem dX12_addLetter_135 : decode cX12_addLetter 135 = .ok (.getfield 9, 3) := by decide +kernel
theorem dX12_addLetter_138 : decode cX12_addLetter 138 = .ok (.iconst 0, 1) := by decide +kernel
theorem dX12_addLetter_139 : decode cX12_addLetter 139 = .ok (.dup2, 1) := by decide +kernel
theorem dX12_addLetter_140 : decode cX12_addLetter 140 = .ok (.iaload, 1) := by decide +kernel
theorem dX12_addLetter_141 : decode cX12_addLetter 141 = .ok (.iconst 1, 1) := by decide +kernel
theorem dX12_addLetter_142 : decode cX12_addLetter 142 = .ok (.iadd, 1) := by decide +kernel
theorem dX12_addLetter_143 : decode cX12_addLetter 143 = .ok (.iastore, 1) := by decide +kernel
theorem dX12_addLetter_144 : decode cX12_addLetter 144 = .ok (.aload_n 0, 1) := by decide +kernel
theorem dX12_addLetter_145 : decode cX12_addLetter 145 = .ok (.getfield 9, 3) := by decide +kernel
theorem dX12_addLetter_148 : decode cX12_addLetter 148 = .ok (.iconst 0, 1) := by decide +kernel
theorem dX12_addLetter_149 : decode cX12_addLetter 149 = .ok (.iaload, 1) := by decide +kernel
theorem dX12_addLetter_150 : decode cX12_addLetter 150 = .ok (.ireturn, 1) := by decide +kernel
set_option maxRecDepth 20000 in
theorem ggX12_moveLetter_X12_isLetterPlace : GoodIn wsX12_moveLetter wsX12_isLetterPlace := goodIn_ca (goodIn_r _ [11, 2, 12, 13, 10, 14, 25, 26, 27, 28, 29, 30, 31, 32, 33, 34, 35, 36, 37, 38, 39, 40, 41, 42, 43, 44, 45, 46, 47, 48, 49, 50, 51] (by decide +kernel) (by decide +kernel)) (goodIn_sub (fun _ h => List.mem_cons_of_mem _ (List.mem_append_right _ h)) (by decide +kernel))
set_option maxRecDepth 20000 in
theorem gX12_moveLetter_X12_isLetterPlace : GoodIn wsX12_moveLetter (wsV RX12 93 RX12 yX12_isLetterPlace wsX12_isLetterPlace) := goodIn_app (goodIn_of _ (by decide +kernel)) ggX12_moveLetter_X12_isLetterPlace
set_option maxRecDepth 20000 in
theorem ggX12_moveLetter_X12_keep : GoodIn wsX12_moveLetter wsX12_keep := goodIn_ca (goodIn_r _ [18, 2, 19, 20, 21, 10, 22, 23, 24, 25, 26, 27, 28, 29, 30, 31, 32, 33, 34, 35, 36, 37, 38, 39, 40, 41, 42, 43, 44, 45, 46, 47, 48, 49, 50, 51] (by decide +kernel) (by decide +kernel)) (goodIn_sub (fun _ h => List.mem_cons_of_mem _ (List.mem_append_right _ h)) (by decide +kernel))
set_option maxRecDepth 20000 in
theorem gX12_moveLetter_X12_keep : GoodIn wsX12_moveLetter (wsV RX12 90 RX12 yX12_keep wsX12_keep) := goodIn_app (goodIn_of _ (by decide +kernel)) ggX12_moveLetter_X12_keep
theorem dX12_moveLetter_0 : decode cX12_moveLetter 0 = .ok (.aload_n 0, 1) := by decide +kernel
theorem dX12_moveLetter_1 : decode cX12_moveLetter 1 = .ok (.aload_n 0, 1) := by decide +kernel
theorem dX12_moveLetter_2 : decode cX12_moveLetter 2 = .ok (.iload_n 1, 1) := by decide +kernel
theorem dX12_moveLetter_3 : decode cX12_moveLetter 3 = .ok (.invokevirtual 93, 3) := by decide +kernel
theorem dX12_moveLetter_6 : decode cX12_moveLetter 6 = .ok (.ifCond .eq 15, 3) := by decide +kernel
theorem dX12_moveLetter_9 : decode cX12_moveLetter 9 = .ok (.aload_n 0, 1) := by decide +kernel
theorem dX12_moveLetter_10 : decode cX12_moveLetter 10 = .ok (.iload_n 2, 1) := by decide +kernel
theorem dX12_moveLetter_11 : decode cX12_moveLetter 11 = .ok (.invokevirtual 93, 3) := by decide +kernel
theorem dX12_moveLetter_14 : decode cX12_moveLetter 14 = .ok (.ifCond .eq 7, 3) := by decide +kernel
theorem dX12_moveLetter_17 : decode cX12_moveLetter 17 = .ok (.iconst 0, 1) := by decide +kernel
theorem dX12_moveLetter_18 : decode cX12_moveLetter 18 = .ok (.goto 4, 3) := by decide +kernel
theorem dX12_moveLetter_21 : decode cX12_moveLetter 21 = .ok (.iconst 1, 1) := by decide +kernel
theorem dX12_moveLetter_22 : decode cX12_moveLetter 22 = .ok (.putfield 62, 3) := by decide +kernel
theorem dX12_moveLetter_25 : decode cX12_moveLetter 25 = .ok (.aload_n 0, 1) := by decide +kernel
theorem dX12_moveLetter_26 : decode cX12_moveLetter 26 = .ok (.getfield 62, 3) := by decide +kernel
theorem dX12_moveLetter_29 : decode cX12_moveLetter 29 = .ok (.ifCond .le 5, 3) := by decide +kernel
theorem dX12_moveLetter_32 : decode cX12_moveLetter 32 = .ok (.iconst 0, 1) := by decide +kernel
theorem dX12_moveLetter_33 : decode cX12_moveLetter 33 = .ok (.ireturn, 1) := by decide +kernel
theorem dX12_moveLetter_34 : decode cX12_moveLetter 34 = .ok (.aload_n 0, 1) := by decide +kernel
theorem dX12_moveLetter_35 : decode cX12_moveLetter 35 = .ok (.invokevirtual 90, 3) := by decide +kernel
theorem dX12_moveLetter_38 : decode cX12_moveLetter 38 = .ok (.aload_n 0, 1) := by decide +kernel
theorem dX12_moveLetter_39 : decode cX12_moveLetter 39 = .ok (.getfield 9, 3) := by decide +kernel
theorem dX12_moveLetter_42 : decode cX12_moveLetter 42 = .ok (.iconst 1, 1) := by decide +kernel
theorem dX12_moveLetter_43 : decode cX12_moveLetter 43 = .ok (.iload_n 1, 1) := by decide +kernel
theorem dX12_moveLetter_44 : decode cX12_moveLetter 44 = .ok (.iadd, 1) := by decide +kernel
theorem dX12_moveLetter_45 : decode cX12_moveLetter 45 = .ok (.iaload, 1) := by decide +kernel
theorem dX12_moveLetter_46 : decode cX12_moveLetter 46 = .ok (.istore_n 3, 1) := by decide +kernel
theorem dX12_moveLetter_47 : decode cX12_moveLetter 47 = .ok (.iload_n 1, 1) := by decide +kernel
theorem dX12_moveLetter_48 : decode cX12_moveLetter 48 = .ok (.iload_n 2, 1) := by decide +kernel
theorem dX12_moveLetter_49 : decode cX12_moveLetter 49 = .ok (.if_icmp .ge 7, 3) := by decide +kernel
theorem dX12_moveLetter_52 : decode cX12_moveLetter 52 = .ok (.iconst 1, 1) := by decide +kernel
theorem dX12_moveLetter_53 : decode cX12_moveLetter 53 = .ok (.goto 4, 3) := by decide +kernel
theorem dX12_moveLetter_56 : decode cX12_moveLetter 56 = .ok (.iconst (-1), 1) := by decide +kernel
theorem dX12_moveLetter_57 : decode cX12_moveLetter 57 = .ok (.istore 4, 2) := by decide +kernel
theorem dX12_moveLetter_59 : decode cX12_moveLetter 59 = .ok (.iload_n 1, 1) := by decide +kernel
theorem dX12_moveLetter_60 : decode cX12_moveLetter 60 = .ok (.istore 5, 2) := by decide +kernel
theorem dX12_moveLetter_62 : decode cX12_moveLetter 62 = .ok (.iload 5, 2) := by decide +kernel
theorem dX12_moveLetter_64 : decode cX12_moveLetter 64 = .ok (.iload_n 2, 1) := by decide +kernel
theorem dX12_moveLetter_65 : decode cX12_moveLetter 65 = .ok (.if_icmp .eq 34, 3) := by decide +kernel
theorem dX12_moveLetter_68 : decode cX12_moveLetter 68 = .ok (.aload_n 0, 1) := by decide +kernel
theorem dX12_moveLetter_69 : decode cX12_moveLetter 69 = .ok (.getfield 9, 3) := by decide +kernel
theorem dX12_moveLetter_72 : decode cX12_moveLetter 72 = .ok (.iconst 1, 1) := by decide +kernel
theorem dX12_moveLetter_73 : decode cX12_moveLetter 73 = .ok (.iload 5, 2) := by decide +kernel
theorem dX12_moveLetter_75 : decode cX12_moveLetter 75 = .ok (.iadd, 1) := by decide +kernel
theorem dX12_moveLetter_76 : decode cX12_moveLetter 76 = .ok (.aload_n 0, 1) := by decide +kernel
theorem dX12_moveLetter_77 : decode cX12_moveLetter 77 = .ok (.getfield 9, 3) := by decide +kernel
theorem dX12_moveLetter_80 : decode cX12_moveLetter 80 = .ok (.iconst 1, 1) := by decide +kernel
theorem dX12_moveLetter_81 : decode cX12_moveLetter 81 = .ok (.iload 5, 2) := by decide +kernel
theorem dX12_moveLetter_83 : decode cX12_moveLetter 83 = .ok (.iadd, 1) := by decide +kernel
theorem dX12_moveLetter_84 : decode cX12_moveLetter 84 = .ok (.iload 4, 2) := by decide +kernel
theorem dX12_moveLetter_86 : decode cX12_moveLetter 86 = .ok (.iadd, 1) := by decide +kernel
theorem dX12_moveLetter_87 : decode cX12_moveLetter 87 = .ok (.iaload, 1) := by decide +kernel
theorem dX12_moveLetter_88 : decode cX12_moveLetter 88 = .ok (.iastore, 1) := by decide +kernel
theorem dX12_moveLetter_89 : decode cX12_moveLetter 89 = .ok (.iload 5, 2) := by decide +kernel
theorem dX12_moveLetter_91 : decode cX12_moveLetter 91 = .ok (.iload 4, 2) := by decide +kernel
theorem dX12_moveLetter_93 : decode cX12_moveLetter 93 = .ok (.iadd, 1) := by decide +kernel
theorem dX12_moveLetter_94 : decode cX12_moveLetter 94 = .ok (.istore 5, 2) := by decide +kernel
theorem dX12_moveLetter_96 : decode cX12_moveLetter 96 = .ok (.goto (-34), 3) := by decide +kernel
theorem dX12_moveLetter_99 : decode cX12_moveLetter 99 = .ok (.aload_n 0, 1) := by decide +kernel
theorem dX12_moveLetter_100 : decode cX12_moveLetter 100 = .ok (.getfield 9, 3) := by decide +kernel
theorem dX12_moveLetter_103 : decode cX12_moveLetter 103 = .ok (.iconst 1, 1) := by decide +kernel
theorem dX12_moveLetter_104 : decode cX12_moveLetter 104 = .ok (.iload_n 2, 1) := by decide +kernel
theorem dX12_moveLetter_105 : decode cX12_moveLetter 105 = .ok (.iadd, 1) := by decide +kernel
theorem dX12_moveLetter_106 : decode cX12_moveLetter 106 = .ok (.iload_n 3, 1) := by decide +kernel
theorem dX12_moveLetter_107 : decode cX12_moveLetter 107 = .ok (.iastore, 1) := by decide +kernel
theorem dX12_moveLetter_108 : decode cX12_moveLetter 108 = .ok (.iload_n 1, 1) := by decide +kernel
theorem dX12_moveLetter_109 : decode cX12_moveLetter 109 = .ok (.iload_n 2, 1) := by decide +kernel
theorem dX12_moveLetter_110 : decode cX12_moveLetter 110 = .ok (.isub, 1) := by decide +kernel
theorem dX12_moveLetter_111 : decode cX12_moveLetter 111 = .ok (.invokestatic 96, 3) := by decide +kernel
theorem dX12_moveLetter_114 : decode cX12_moveLetter 114 = .ok (.ireturn, 1) := by decide +kernel
set_option maxRecDepth 20000 in
theorem ggX12_letter_X12_isLetterPlace : GoodIn wsX12_letter wsX12_isLetterPlace := goodIn_ca (goodIn_r _ [7, 2, 8, 9, 6, 10, 11, 12, 13, 14, 15, 16, 17, 18, 19, 20, 21, 22, 23, 24, 25, 26, 27, 28, 29, 30, 31, 32, 33, 34, 35, 36, 37] (by decide +kernel) (by decide +kernel)) (goodIn_sub (fun _ h => List.mem_cons_of_mem _ (List.mem_append_right _ h)) (by decide +kernel))
set_option maxRecDepth 20000 in
theorem gX12_letter_X12_isLetterPlace : GoodIn wsX12_letter (wsV RX12 93 RX12 yX12_isLetterPlace wsX12_isLetterPlace) := goodIn_app (goodIn_of _ (by decide +kernel)) ggX12_letter_X12_isLetterPlace
theorem dX12_letter_0 : decode cX12_letter 0 = .ok (.aload_n 0, 1) := by decide +kernel
theorem dX12_letter_1 : decode cX12_letter 1 = .ok (.aload_n 0, 1) := by decide +kernel
theorem dX12_letter_2 : decode cX12_letter 2 = .ok (.iload_n 1, 1) := by decide +kernel
theorem dX12_letter_3 : decode cX12_letter 3 = .ok (.invokevirtual 93, 3) := by decide +kernel
theorem dX12_letter_6 : decode cX12_letter 6 = .ok (.ifCond .eq 7, 3) := by decide +kernel
theorem dX12_letter_9 : decode cX12_letter 9 = .ok (.iconst 0, 1) := by decide +kernel
theorem dX12_letter_10 : decode cX12_letter 10 = .ok (.goto 4, 3) := by decide +kernel
theorem dX12_letter_13 : decode cX12_letter 13 = .ok (.iconst 1, 1) := by decide +kernel
theorem dX12_letter_14 : decode cX12_letter 14 = .ok (.putfield 62, 3) := by decide +kernel
theorem dX12_letter_17 : decode cX12_letter 17 = .ok (.aload_n 0, 1) := by decide +kernel
theorem dX12_letter_18 : decode cX12_letter 18 = .ok (.getfield 62, 3) := by decide +kernel
theorem dX12_letter_21 : decode cX12_letter 21 = .ok (.ifCond .le 5, 3) := by decide +kernel
theorem dX12_letter_24 : decode cX12_letter 24 = .ok (.iconst 0, 1) := by decide +kernel
theorem dX12_letter_25 : decode cX12_letter 25 = .ok (.ireturn, 1) := by decide +kernel
theorem dX12_letter_26 : decode cX12_letter 26 = .ok (.aload_n 0, 1) := by decide +kernel
theorem dX12_letter_27 : decode cX12_letter 27 = .ok (.getfield 9, 3) := by decide +kernel
theorem dX12_letter_30 : decode cX12_letter 30 = .ok (.iconst 1, 1) := by decide +kernel
theorem dX12_letter_31 : decode cX12_letter 31 = .ok (.iload_n 1, 1) := by decide +kernel
theorem dX12_letter_32 : decode cX12_letter 32 = .ok (.iadd, 1) := by decide +kernel
theorem dX12_letter_33 : decode cX12_letter 33 = .ok (.iaload, 1) := by decide +kernel
theorem dX12_letter_34 : decode cX12_letter 34 = .ok (.istore_n 3, 1) := by decide +kernel
theorem dX12_letter_35 : decode cX12_letter 35 = .ok (.iload_n 3, 1) := by decide +kernel
theorem dX12_letter_36 : decode cX12_letter 36 = .ok (.sipush 128, 3) := by decide +kernel
theorem dX12_letter_39 : decode cX12_letter 39 = .ok (.if_icmp .lt 7, 3) := by decide +kernel
theorem dX12_letter_42 : decode cX12_letter 42 = .ok (.iconst 1, 1) := by decide +kernel
theorem dX12_letter_43 : decode cX12_letter 43 = .ok (.goto 4, 3) := by decide +kernel
theorem dX12_letter_46 : decode cX12_letter 46 = .ok (.iconst 0, 1) := by decide +kernel
theorem dX12_letter_47 : decode cX12_letter 47 = .ok (.istore 4, 2) := by decide +kernel
theorem dX12_letter_49 : decode cX12_letter 49 = .ok (.iload_n 2, 1) := by decide +kernel
theorem dX12_letter_50 : decode cX12_letter 50 = .ok (.ifCond .eq 21, 3) := by decide +kernel
theorem dX12_letter_53 : decode cX12_letter 53 = .ok (.iload 4, 2) := by decide +kernel
theorem dX12_letter_55 : decode cX12_letter 55 = .ok (.ifCond .eq 11, 3) := by decide +kernel
theorem dX12_letter_58 : decode cX12_letter 58 = .ok (.iload_n 3, 1) := by decide +kernel
theorem dX12_letter_59 : decode cX12_letter 59 = .ok (.sipush 128, 3) := by decide +kernel
theorem dX12_letter_62 : decode cX12_letter 62 = .ok (.irem, 1) := by decide +kernel
theorem dX12_letter_63 : decode cX12_letter 63 = .ok (.goto 22, 3) := by decide +kernel
theorem dX12_letter_66 : decode cX12_letter 66 = .ok (.bipush 32, 2) := by decide +kernel
theorem dX12_letter_68 : decode cX12_letter 68 = .ok (.goto 17, 3) := by decide +kernel
theorem dX12_letter_71 : decode cX12_letter 71 = .ok (.iload 4, 2) := by decide +kernel
theorem dX12_letter_73 : decode cX12_letter 73 = .ok (.ifCond .eq 11, 3) := by decide +kernel
theorem dX12_letter_76 : decode cX12_letter 76 = .ok (.iload_n 3, 1) := by decide +kernel
theorem dX12_letter_77 : decode cX12_letter 77 = .ok (.sipush 128, 3) := by decide +kernel
theorem dX12_letter_80 : decode cX12_letter 80 = .ok (.idiv, 1) := by decide +kernel
theorem dX12_letter_81 : decode cX12_letter 81 = .ok (.goto 4, 3) := by decide +kernel
theorem dX12_letter_84 : decode cX12_letter 84 = .ok (.iload_n 3, 1) := by decide +kernel
theorem dX12_letter_85 : decode cX12_letter 85 = .ok (.i2c, 1) := by decide +kernel
theorem dX12_letter_86 : decode cX12_letter 86 = .ok (.ireturn, 1) := by decide +kernel
set_option maxRecDepth 20000 in
theorem ggX12_readForm_X12_isSmall : GoodIn wsX12_readForm wsX12_isSmall := goodIn_r _ [10, 11, 12, 9, 13] (by decide +kernel) (by decide +kernel)
set_option maxRecDepth 20000 in
theorem gX12_readForm_X12_isSmall : GoodIn wsX12_readForm (va_wsS RX12 83 yX12_isSmall wsX12_isSmall) := goodIn_app (goodIn_of _ (by decide +kernel)) ggX12_readForm_X12_isSmall
set_option maxRecDepth 20000 in
theorem ggX12_readForm_X12_placeOf : GoodIn wsX12_readForm wsX12_placeOf := goodIn_ca (goodIn_r _ [17, 18, 19, 20, 21, 22, 23, 24, 25, 26, 27, 28, 29, 30, 31, 32, 33, 34, 35, 36, 37, 38, 39, 40, 41, 42, 43, 44, 45] (by decide +kernel) (by decide +kernel)) (goodIn_sub (fun _ h => List.mem_cons_of_mem _ (List.mem_append_right _ h)) (by decide +kernel))
set_option maxRecDepth 20000 in
theorem gX12_readForm_X12_placeOf : GoodIn wsX12_readForm (wsV RX12 87 RX12 yX12_placeOf wsX12_placeOf) := goodIn_app (goodIn_of _ (by decide +kernel)) ggX12_readForm_X12_placeOf
theorem dX12_readForm_0 : decode cX12_readForm 0 = .ok (.iload_n 1, 1) := by decide +kernel
theorem dX12_readForm_1 : decode cX12_readForm 1 = .ok (.iload_n 2, 1) := by decide +kernel
theorem dX12_readForm_2 : decode cX12_readForm 2 = .ok (.if_icmp .ge 7, 3) := by decide +kernel
theorem dX12_readForm_5 : decode cX12_readForm 5 = .ok (.iconst 1, 1) := by decide +kernel
theorem dX12_readForm_6 : decode cX12_readForm 6 = .ok (.goto 4, 3) := by decide +kernel
theorem dX12_readForm_9 : decode cX12_readForm 9 = .ok (.iconst 0, 1) := by decide +kernel
theorem dX12_readForm_10 : decode cX12_readForm 10 = .ok (.istore_n 3, 1) := by decide +kernel
theorem dX12_readForm_11 : decode cX12_readForm 11 = .ok (.iconst 0, 1) := by decide +kernel
theorem dX12_readForm_12 : decode cX12_readForm 12 = .ok (.istore 4, 2) := by decide +kernel
theorem dX12_readForm_14 : decode cX12_readForm 14 = .ok (.iload_n 1, 1) := by decide +kernel
theorem dX12_readForm_15 : decode cX12_readForm 15 = .ok (.istore 5, 2) := by decide +kernel
theorem dX12_readForm_17 : decode cX12_readForm 17 = .ok (.iload 5, 2) := by decide +kernel
theorem dX12_readForm_19 : decode cX12_readForm 19 = .ok (.iload_n 2, 1) := by decide +kernel
theorem dX12_readForm_20 : decode cX12_readForm 20 = .ok (.if_icmp .ge 142, 3) := by decide +kernel
theorem dX12_readForm_23 : decode cX12_readForm 23 = .ok (.iload_n 3, 1) := by decide +kernel
theorem dX12_readForm_24 : decode cX12_readForm 24 = .ok (.ifCond .eq 20, 3) := by decide +kernel
theorem dX12_readForm_27 : decode cX12_readForm 27 = .ok (.aload_n 0, 1) := by decide +kernel
theorem dX12_readForm_28 : decode cX12_readForm 28 = .ok (.getfield 19, 3) := by decide +kernel
theorem dX12_readForm_31 : decode cX12_readForm 31 = .ok (.iload 5, 2) := by decide +kernel
theorem dX12_readForm_33 : decode cX12_readForm 33 = .ok (.iaload, 1) := by decide +kernel
theorem dX12_readForm_34 : decode cX12_readForm 34 = .ok (.invokestatic 83, 3) := by decide +kernel
theorem dX12_readForm_37 : decode cX12_readForm 37 = .ok (.ifCond .eq 7, 3) := by decide +kernel
theorem dX12_readForm_40 : decode cX12_readForm 40 = .ok (.iconst 1, 1) := by decide +kernel
theorem dX12_readForm_41 : decode cX12_readForm 41 = .ok (.goto 4, 3) := by decide +kernel
theorem dX12_readForm_44 : decode cX12_readForm 44 = .ok (.iconst 0, 1) := by decide +kernel
theorem dX12_readForm_45 : decode cX12_readForm 45 = .ok (.istore_n 3, 1) := by decide +kernel
theorem dX12_readForm_46 : decode cX12_readForm 46 = .ok (.iload 5, 2) := by decide +kernel
theorem dX12_readForm_48 : decode cX12_readForm 48 = .ok (.iconst 1, 1) := by decide +kernel
theorem dX12_readForm_49 : decode cX12_readForm 49 = .ok (.iadd, 1) := by decide +kernel
theorem dX12_readForm_50 : decode cX12_readForm 50 = .ok (.iload_n 2, 1) := by decide +kernel
theorem dX12_readForm_51 : decode cX12_readForm 51 = .ok (.if_icmp .ge 35, 3) := by decide +kernel
theorem dX12_readForm_54 : decode cX12_readForm 54 = .ok (.aload_n 0, 1) := by decide +kernel
theorem dX12_readForm_55 : decode cX12_readForm 55 = .ok (.sipush 128, 3) := by decide +kernel
theorem dX12_readForm_58 : decode cX12_readForm 58 = .ok (.aload_n 0, 1) := by decide +kernel
theorem dX12_readForm_59 : decode cX12_readForm 59 = .ok (.getfield 19, 3) := by decide +kernel
theorem dX12_readForm_62 : decode cX12_readForm 62 = .ok (.iload 5, 2) := by decide +kernel
theorem dX12_readForm_64 : decode cX12_readForm 64 = .ok (.iaload, 1) := by decide +kernel
theorem dX12_readForm_65 : decode cX12_readForm 65 = .ok (.imul, 1) := by decide +kernel
theorem dX12_readForm_66 : decode cX12_readForm 66 = .ok (.aload_n 0, 1) := by decide +kernel
theorem dX12_readForm_67 : decode cX12_readForm 67 = .ok (.getfield 19, 3) := by decide +kernel
theorem dX12_readForm_70 : decode cX12_readForm 70 = .ok (.iload 5, 2) := by decide +kernel
theorem dX12_readForm_72 : decode cX12_readForm 72 = .ok (.iconst 1, 1) := by decide +kernel
theorem dX12_readForm_73 : decode cX12_readForm 73 = .ok (.iadd, 1) := by decide +kernel
theorem dX12_readForm_74 : decode cX12_readForm 74 = .ok (.iaload, 1) := by decide +kernel
theorem dX12_readForm_75 : decode cX12_readForm 75 = .ok (.iadd, 1) := by decide +kernel
theorem dX12_readForm_76 : decode cX12_readForm 76 = .ok (.invokevirtual 87, 3) := by decide +kernel
theorem dX12_readForm_79 : decode cX12_readForm 79 = .ok (.ifCond .lt 7, 3) := by decide +kernel
theorem dX12_readForm_82 : decode cX12_readForm 82 = .ok (.iconst 1, 1) := by decide +kernel
theorem dX12_readForm_83 : decode cX12_readForm 83 = .ok (.goto 4, 3) := by decide +kernel
theorem dX12_readForm_86 : decode cX12_readForm 86 = .ok (.iconst 0, 1) := by decide +kernel
theorem dX12_readForm_87 : decode cX12_readForm 87 = .ok (.istore 6, 2) := by decide +kernel
theorem dX12_readForm_89 : decode cX12_readForm 89 = .ok (.iload 4, 2) := by decide +kernel
theorem dX12_readForm_91 : decode cX12_readForm 91 = .ok (.bipush 8, 2) := by decide +kernel
theorem dX12_readForm_93 : decode cX12_readForm 93 = .ok (.if_icmp .ge 48, 3) := by decide +kernel
theorem dX12_readForm_96 : decode cX12_readForm 96 = .ok (.aload_n 0, 1) := by decide +kernel
theorem dX12_readForm_97 : decode cX12_readForm 97 = .ok (.getfield 22, 3) := by decide +kernel
theorem dX12_readForm_100 : decode cX12_readForm 100 = .ok (.iload 4, 2) := by decide +kernel
theorem dX12_readForm_102 : decode cX12_readForm 102 = .ok (.iconst 1, 1) := by decide +kernel
theorem dX12_readForm_103 : decode cX12_readForm 103 = .ok (.iadd, 1) := by decide +kernel
theorem dX12_readForm_104 : decode cX12_readForm 104 = .ok (.iload 6, 2) := by decide +kernel
theorem dX12_readForm_106 : decode cX12_readForm 106 = .ok (.ifCond .eq 27, 3) := by decide +kernel
theorem dX12_readForm_109 : decode cX12_readForm 109 = .ok (.sipush 128, 3) := by decide +kernel
theorem dX12_readForm_112 : decode cX12_readForm 112 = .ok (.aload_n 0, 1) := by decide +kernel
theorem dX12_readForm_113 : decode cX12_readForm 113 = .ok (.getfield 19, 3) := by decide +kernel
theorem dX12_readForm_116 : decode cX12_readForm 116 = .ok (.iload 5, 2) := by decide +kernel
theorem dX12_readForm_118 : decode cX12_readForm 118 = .ok (.iaload, 1) := by decide +kernel
theorem dX12_readForm_119 : decode cX12_readForm 119 = .ok (.imul, 1) := by decide +kernel
theorem dX12_readForm_120 : decode cX12_readForm 120 = .ok (.aload_n 0, 1) := by decide +kernel
theorem dX12_readForm_121 : decode cX12_readForm 121 = .ok (.getfield 19, 3) := by decide +kernel
theorem dX12_readForm_124 : decode cX12_readForm 124 = .ok (.iload 5, 2) := by decide +kernel
theorem dX12_readForm_126 : decode cX12_readForm 126 = .ok (.iconst 1, 1) := by decide +kernel
theorem dX12_readForm_127 : decode cX12_readForm 127 = .ok (.iadd, 1) := by decide +kernel
theorem dX12_readForm_128 : decode cX12_readForm 128 = .ok (.iaload, 1) := by decide +kernel
theorem dX12_readForm_129 : decode cX12_readForm 129 = .ok (.iadd, 1) := by decide +kernel
theorem dX12_readForm_130 : decode cX12_readForm 130 = .ok (.goto 10, 3) := by decide +kernel
theorem dX12_readForm_133 : decode cX12_readForm 133 = .ok (.aload_n 0, 1) := by decide +kernel
theorem dX12_readForm_134 : decode cX12_readForm 134 = .ok (.getfield 19, 3) := by decide +kernel
theorem dX12_readForm_137 : decode cX12_readForm 137 = .ok (.iload 5, 2) := by decide +kernel
theorem dX12_readForm_139 : decode cX12_readForm 139 = .ok (.iaload, 1) := by decide +kernel
theorem dX12_readForm_140 : decode cX12_readForm 140 = .ok (.iastore, 1) := by decide +kernel
theorem dX12_readForm_141 : decode cX12_readForm 141 = .ok (.iinc 4 1, 3) := by decide +kernel
theorem dX12_readForm_144 : decode cX12_readForm 144 = .ok (.iload 5, 2) := by decide +kernel
theorem dX12_readForm_146 : decode cX12_readForm 146 = .ok (.iload 6, 2) := by decide +kernel
theorem dX12_readForm_148 : decode cX12_readForm 148 = .ok (.ifCond .eq 7, 3) := by decide +kernel
theorem dX12_readForm_151 : decode cX12_readForm 151 = .ok (.iconst 2, 1) := by decide +kernel
theorem dX12_readForm_152 : decode cX12_readForm 152 = .ok (.goto 4, 3) := by decide +kernel
theorem dX12_readForm_155 : decode cX12_readForm 155 = .ok (.iconst 1, 1) := by decide +kernel
theorem dX12_readForm_156 : decode cX12_readForm 156 = .ok (.iadd, 1) := by decide +kernel
theorem dX12_readForm_157 : decode cX12_readForm 157 = .ok (.istore 5, 2) := by decide +kernel
theorem dX12_readForm_159 : decode cX12_readForm 159 = .ok (.goto (-142), 3) := by decide +kernel
theorem dX12_readForm_162 : decode cX12_readForm 162 = .ok (.aload_n 0, 1) := by decide +kernel
theorem dX12_readForm_163 : decode cX12_readForm 163 = .ok (.getfield 22, 3) := by decide +kernel
theorem dX12_readForm_166 : decode cX12_readForm 166 = .ok (.iconst 0, 1) := by decide +kernel
theorem dX12_readForm_167 : decode cX12_readForm 167 = .ok (.iload 4, 2) := by decide +kernel
theorem dX12_readForm_169 : decode cX12_readForm 169 = .ok (.bipush 8, 2) := by decide +kernel
theorem dX12_readForm_171 : decode cX12_readForm 171 = .ok (.invokestatic 101, 3) := by decide +kernel
theorem dX12_readForm_174 : decode cX12_readForm 174 = .ok (.iastore, 1) := by decide +kernel
theorem dX12_readForm_175 : decode cX12_readForm 175 = .ok (.iload_n 3, 1) := by decide +kernel
theorem dX12_readForm_176 : decode cX12_readForm 176 = .ok (.ifCond .ne 7, 3) := by decide +kernel
theorem dX12_readForm_179 : decode cX12_readForm 179 = .ok (.iconst 0, 1) := by decide +kernel
theorem dX12_readForm_180 : decode cX12_readForm 180 = .ok (.goto 16, 3) := by decide +kernel
theorem dX12_readForm_183 : decode cX12_readForm 183 = .ok (.iload 4, 2) := by decide +kernel
theorem dX12_readForm_185 : decode cX12_readForm 185 = .ok (.bipush 8, 2) := by decide +kernel
theorem dX12_readForm_187 : decode cX12_readForm 187 = .ok (.if_icmp .le 8, 3) := by decide +kernel
theorem dX12_readForm_190 : decode cX12_readForm 190 = .ok (.iload 4, 2) := by decide +kernel
theorem dX12_readForm_192 : decode cX12_readForm 192 = .ok (.goto 4, 3) := by decide +kernel
theorem dX12_readForm_195 : decode cX12_readForm 195 = .ok (.iconst (-1), 1) := by decide +kernel
theorem dX12_readForm_196 : decode cX12_readForm 196 = .ok (.ireturn, 1) := by decide +kernel
set_option maxRecDepth 20000 in
theorem ggX12_isHead_X12_in : GoodIn wsX12_isHead wsX12_in := goodIn_r _ [5] (by decide +kernel) (by decide +kernel)
set_option maxRecDepth 20000 in
theorem gX12_isHead_X12_in : GoodIn wsX12_isHead (va_wsS RX12 72 yX12_in wsX12_in) := goodIn_app (goodIn_of _ (by decide +kernel)) ggX12_isHead_X12_in
theorem dX12_isHead_0 : decode cX12_isHead 0 = .ok (.iload_n 1, 1) := by decide +kernel
theorem dX12_isHead_1 : decode cX12_isHead 1 = .ok (.iconst 0, 1) := by decide +kernel
theorem dX12_isHead_2 : decode cX12_isHead 2 = .ok (.aload_n 0, 1) := by decide +kernel
theorem dX12_isHead_3 : decode cX12_isHead 3 = .ok (.getfield 9, 3) := by decide +kernel
theorem dX12_isHead_6 : decode cX12_isHead 6 = .ok (.bipush 37, 2) := by decide +kernel
theorem dX12_isHead_8 : decode cX12_isHead 8 = .ok (.iaload, 1) := by decide +kernel
theorem dX12_isHead_9 : decode cX12_isHead 9 = .ok (.iconst 1, 1) := by decide +kernel
theorem dX12_isHead_10 : decode cX12_isHead 10 = .ok (.isub, 1) := by decide +kernel
theorem dX12_isHead_11 : decode cX12_isHead 11 = .ok (.invokestatic 72, 3) := by decide +kernel
theorem dX12_isHead_14 : decode cX12_isHead 14 = .ok (.ireturn, 1) := by decide +kernel
theorem dX12_allForms_0 : decode cX12_allForms 0 = .ok (.iconst 0, 1) := by decide +kernel
theorem dX12_allForms_1 : decode cX12_allForms 1 = .ok (.istore_n 1, 1) := by decide +kernel
theorem dX12_allForms_2 : decode cX12_allForms 2 = .ok (.iconst 0, 1) := by decide +kernel
theorem dX12_allForms_3 : decode cX12_allForms 3 = .ok (.istore_n 2, 1) := by decide +kernel
theorem dX12_allForms_4 : decode cX12_allForms 4 = .ok (.iload_n 2, 1) := by decide +kernel
theorem dX12_allForms_5 : decode cX12_allForms 5 = .ok (.aload_n 0, 1) := by decide +kernel
theorem dX12_allForms_6 : decode cX12_allForms 6 = .ok (.getfield 9, 3) := by decide +kernel
theorem dX12_allForms_9 : decode cX12_allForms 9 = .ok (.bipush 37, 2) := by decide +kernel
theorem dX12_allForms_11 : decode cX12_allForms 11 = .ok (.iaload, 1) := by decide +kernel
theorem dX12_allForms_12 : decode cX12_allForms 12 = .ok (.if_icmp .ge 17, 3) := by decide +kernel
theorem dX12_allForms_15 : decode cX12_allForms 15 = .ok (.iload_n 1, 1) := by decide +kernel
theorem dX12_allForms_16 : decode cX12_allForms 16 = .ok (.aload_n 0, 1) := by decide +kernel
theorem dX12_allForms_17 : decode cX12_allForms 17 = .ok (.iload_n 2, 1) := by decide +kernel
theorem dX12_allForms_18 : decode cX12_allForms 18 = .ok (.invokevirtual 108, 3) := by decide +kernel
theorem dX12_allForms_21 : decode cX12_allForms 21 = .ok (.iadd, 1) := by decide +kernel
theorem dX12_allForms_22 : decode cX12_allForms 22 = .ok (.istore_n 1, 1) := by decide +kernel
theorem dX12_allForms_23 : decode cX12_allForms 23 = .ok (.iinc 2 1, 3) := by decide +kernel
theorem dX12_allForms_26 : decode cX12_allForms 26 = .ok (.goto (-22), 3) := by decide +kernel
theorem dX12_allForms_29 : decode cX12_allForms 29 = .ok (.iload_n 1, 1) := by decide +kernel
theorem dX12_allForms_30 : decode cX12_allForms 30 = .ok (.ireturn, 1) := by decide +kernel
theorem dX12_refuses_0 : decode cX12_refuses 0 = .ok (.aload_n 0, 1) := by decide +kernel
theorem dX12_refuses_1 : decode cX12_refuses 1 = .ok (.iconst 0, 1) := by decide +kernel
theorem dX12_refuses_2 : decode cX12_refuses 2 = .ok (.putfield 118, 3) := by decide +kernel
theorem dX12_refuses_5 : decode cX12_refuses 5 = .ok (.aload_n 0, 1) := by decide +kernel
theorem dX12_refuses_6 : decode cX12_refuses 6 = .ok (.getfield 28, 3) := by decide +kernel
theorem dX12_refuses_9 : decode cX12_refuses 9 = .ok (.ifCond .lt 26, 3) := by decide +kernel
theorem dX12_refuses_12 : decode cX12_refuses 12 = .ok (.aload_n 0, 1) := by decide +kernel
theorem dX12_refuses_13 : decode cX12_refuses 13 = .ok (.getfield 25, 3) := by decide +kernel
theorem dX12_refuses_16 : decode cX12_refuses 16 = .ok (.iconst 0, 1) := by decide +kernel
theorem dX12_refuses_17 : decode cX12_refuses 17 = .ok (.bipush 9, 2) := by decide +kernel
theorem dX12_refuses_19 : decode cX12_refuses 19 = .ok (.iastore, 1) := by decide +kernel
theorem dX12_refuses_20 : decode cX12_refuses 20 = .ok (.aload_n 0, 1) := by decide +kernel
theorem dX12_refuses_21 : decode cX12_refuses 21 = .ok (.getfield 25, 3) := by decide +kernel
theorem dX12_refuses_24 : decode cX12_refuses 24 = .ok (.iconst 1, 1) := by decide +kernel
theorem dX12_refuses_25 : decode cX12_refuses 25 = .ok (.aload_n 0, 1) := by decide +kernel
theorem dX12_refuses_26 : decode cX12_refuses 26 = .ok (.getfield 28, 3) := by decide +kernel
theorem dX12_refuses_29 : decode cX12_refuses 29 = .ok (.iastore, 1) := by decide +kernel
theorem dX12_refuses_30 : decode cX12_refuses 30 = .ok (.aload_n 0, 1) := by decide +kernel
theorem dX12_refuses_31 : decode cX12_refuses 31 = .ok (.iconst 1, 1) := by decide +kernel
theorem dX12_refuses_32 : decode cX12_refuses 32 = .ok (.putfield 118, 3) := by decide +kernel
theorem dX12_refuses_35 : decode cX12_refuses 35 = .ok (.aload_n 0, 1) := by decide +kernel
theorem dX12_refuses_36 : decode cX12_refuses 36 = .ok (.getfield 25, 3) := by decide +kernel
theorem dX12_refuses_39 : decode cX12_refuses 39 = .ok (.iconst 2, 1) := by decide +kernel
theorem dX12_refuses_40 : decode cX12_refuses 40 = .ok (.aload_n 0, 1) := by decide +kernel
theorem dX12_refuses_41 : decode cX12_refuses 41 = .ok (.getfield 118, 3) := by decide +kernel
theorem dX12_refuses_44 : decode cX12_refuses 44 = .ok (.imul, 1) := by decide +kernel
theorem dX12_refuses_45 : decode cX12_refuses 45 = .ok (.iload_n 1, 1) := by decide +kernel
theorem dX12_refuses_46 : decode cX12_refuses 46 = .ok (.iastore, 1) := by decide +kernel
theorem dX12_refuses_47 : decode cX12_refuses 47 = .ok (.aload_n 0, 1) := by decide +kernel
theorem dX12_refuses_48 : decode cX12_refuses 48 = .ok (.getfield 25, 3) := by decide +kernel
theorem dX12_refuses_51 : decode cX12_refuses 51 = .ok (.iconst 2, 1) := by decide +kernel
theorem dX12_refuses_52 : decode cX12_refuses 52 = .ok (.aload_n 0, 1) := by decide +kernel
theorem dX12_refuses_53 : decode cX12_refuses 53 = .ok (.getfield 118, 3) := by decide +kernel
theorem dX12_refuses_56 : decode cX12_refuses 56 = .ok (.imul, 1) := by decide +kernel
theorem dX12_refuses_57 : decode cX12_refuses 57 = .ok (.iconst 1, 1) := by decide +kernel
theorem dX12_refuses_58 : decode cX12_refuses 58 = .ok (.iadd, 1) := by decide +kernel
theorem dX12_refuses_59 : decode cX12_refuses 59 = .ok (.iload_n 2, 1) := by decide +kernel
theorem dX12_refuses_60 : decode cX12_refuses 60 = .ok (.iastore, 1) := by decide +kernel
theorem dX12_refuses_61 : decode cX12_refuses 61 = .ok (.aload_n 0, 1) := by decide +kernel
theorem dX12_refuses_62 : decode cX12_refuses 62 = .ok (.getfield 25, 3) := by decide +kernel
theorem dX12_refuses_65 : decode cX12_refuses 65 = .ok (.iconst 2, 1) := by decide +kernel
theorem dX12_refuses_66 : decode cX12_refuses 66 = .ok (.aload_n 0, 1) := by decide +kernel
theorem dX12_refuses_67 : decode cX12_refuses 67 = .ok (.getfield 118, 3) := by decide +kernel
theorem dX12_refuses_70 : decode cX12_refuses 70 = .ok (.imul, 1) := by decide +kernel
theorem dX12_refuses_71 : decode cX12_refuses 71 = .ok (.iconst 2, 1) := by decide +kernel
theorem dX12_refuses_72 : decode cX12_refuses 72 = .ok (.iadd, 1) := by decide +kernel
theorem dX12_refuses_73 : decode cX12_refuses 73 = .ok (.iload_n 3, 1) := by decide +kernel
theorem dX12_refuses_74 : decode cX12_refuses 74 = .ok (.iastore, 1) := by decide +kernel
theorem dX12_refuses_75 : decode cX12_refuses 75 = .ok (.aload_n 0, 1) := by decide +kernel
theorem dX12_refuses_76 : decode cX12_refuses 76 = .ok (.getfield 25, 3) := by decide +kernel
theorem dX12_refuses_79 : decode cX12_refuses 79 = .ok (.iconst 2, 1) := by decide +kernel
theorem dX12_refuses_80 : decode cX12_refuses 80 = .ok (.aload_n 0, 1) := by decide +kernel
theorem dX12_refuses_81 : decode cX12_refuses 81 = .ok (.getfield 118, 3) := by decide +kernel
theorem dX12_refuses_84 : decode cX12_refuses 84 = .ok (.imul, 1) := by decide +kernel
theorem dX12_refuses_85 : decode cX12_refuses 85 = .ok (.iconst 3, 1) := by decide +kernel
theorem dX12_refuses_86 : decode cX12_refuses 86 = .ok (.iadd, 1) := by decide +kernel
theorem dX12_refuses_87 : decode cX12_refuses 87 = .ok (.iload 4, 2) := by decide +kernel
theorem dX12_refuses_89 : decode cX12_refuses 89 = .ok (.iastore, 1) := by decide +kernel
theorem dX12_refuses_90 : decode cX12_refuses 90 = .ok (.aload_n 0, 1) := by decide +kernel
theorem dX12_refuses_91 : decode cX12_refuses 91 = .ok (.dup, 1) := by decide +kernel
theorem dX12_refuses_92 : decode cX12_refuses 92 = .ok (.getfield 118, 3) := by decide +kernel
theorem dX12_refuses_95 : decode cX12_refuses 95 = .ok (.iconst 2, 1) := by decide +kernel
theorem dX12_refuses_96 : decode cX12_refuses 96 = .ok (.iadd, 1) := by decide +kernel
theorem dX12_refuses_97 : decode cX12_refuses 97 = .ok (.putfield 118, 3) := by decide +kernel
theorem dX12_refuses_100 : decode cX12_refuses 100 = .ok (.iconst (-1), 1) := by decide +kernel
theorem dX12_refuses_101 : decode cX12_refuses 101 = .ok (.ireturn, 1) := by decide +kernel
set_option maxRecDepth 20000 in
theorem ggX12_report_X12_in : GoodIn wsX12_report wsX12_in := goodIn_r _ [7] (by decide +kernel) (by decide +kernel)
set_option maxRecDepth 20000 in
theorem gX12_report_X12_in : GoodIn wsX12_report (va_wsS RX12 72 yX12_in wsX12_in) := goodIn_app (goodIn_of _ (by decide +kernel)) ggX12_report_X12_in
theorem dX12_report_0 : decode cX12_report 0 = .ok (.aload_n 0, 1) := by decide +kernel
theorem dX12_report_1 : decode cX12_report 1 = .ok (.iload_n 1, 1) := by decide +kernel
theorem dX12_report_2 : decode cX12_report 2 = .ok (.iconst 0, 1) := by decide +kernel
theorem dX12_report_3 : decode cX12_report 3 = .ok (.aload_n 0, 1) := by decide +kernel
theorem dX12_report_4 : decode cX12_report 4 = .ok (.getfield 118, 3) := by decide +kernel
theorem dX12_report_7 : decode cX12_report 7 = .ok (.iconst 1, 1) := by decide +kernel
theorem dX12_report_8 : decode cX12_report 8 = .ok (.isub, 1) := by decide +kernel
theorem dX12_report_9 : decode cX12_report 9 = .ok (.invokestatic 72, 3) := by decide +kernel
theorem dX12_report_12 : decode cX12_report 12 = .ok (.ifCond .eq 7, 3) := by decide +kernel
theorem dX12_report_15 : decode cX12_report 15 = .ok (.iconst 0, 1) := by decide +kernel
theorem dX12_report_16 : decode cX12_report 16 = .ok (.goto 4, 3) := by decide +kernel
theorem dX12_report_19 : decode cX12_report 19 = .ok (.iconst 1, 1) := by decide +kernel
theorem dX12_report_20 : decode cX12_report 20 = .ok (.putfield 62, 3) := by decide +kernel
theorem dX12_report_23 : decode cX12_report 23 = .ok (.aload_n 0, 1) := by decide +kernel
theorem dX12_report_24 : decode cX12_report 24 = .ok (.getfield 62, 3) := by decide +kernel
theorem dX12_report_27 : decode cX12_report 27 = .ok (.ifCond .le 7, 3) := by decide +kernel
theorem dX12_report_30 : decode cX12_report 30 = .ok (.iconst 0, 1) := by decide +kernel
theorem dX12_report_31 : decode cX12_report 31 = .ok (.goto 21, 3) := by decide +kernel
theorem dX12_report_34 : decode cX12_report 34 = .ok (.aload_n 0, 1) := by decide +kernel
theorem dX12_report_35 : decode cX12_report 35 = .ok (.getfield 25, 3) := by decide +kernel
theorem dX12_report_38 : decode cX12_report 38 = .ok (.iconst 2, 1) := by decide +kernel
theorem dX12_report_39 : decode cX12_report 39 = .ok (.iload_n 1, 1) := by decide +kernel
theorem dX12_report_40 : decode cX12_report 40 = .ok (.imul, 1) := by decide +kernel
theorem dX12_report_41 : decode cX12_report 41 = .ok (.iload_n 2, 1) := by decide +kernel
theorem dX12_report_42 : decode cX12_report 42 = .ok (.ifCond .eq 7, 3) := by decide +kernel
theorem dX12_report_45 : decode cX12_report 45 = .ok (.iconst 1, 1) := by decide +kernel
theorem dX12_report_46 : decode cX12_report 46 = .ok (.goto 4, 3) := by decide +kernel
theorem dX12_report_49 : decode cX12_report 49 = .ok (.iconst 0, 1) := by decide +kernel
theorem dX12_report_50 : decode cX12_report 50 = .ok (.iadd, 1) := by decide +kernel
theorem dX12_report_51 : decode cX12_report 51 = .ok (.iaload, 1) := by decide +kernel
theorem dX12_report_52 : decode cX12_report 52 = .ok (.ireturn, 1) := by decide +kernel
set_option maxRecDepth 20000 in
theorem ggX12_addTold_X12_readForm : GoodIn wsX12_addTold wsX12_readForm := goodIn_ca (goodIn_r _ [6, 7, 8, 9, 10, 11, 12, 13, 14, 5, 15, 16, 17, 18, 19, 20, 21, 22, 1, 55, 56, 57, 58, 59, 60, 61, 62, 63, 64, 65, 66, 67, 68, 69, 70, 71, 72, 73, 74, 75, 76, 77, 78, 79, 80, 81] (by decide +kernel) (by decide +kernel)) (goodIn_sub (fun _ h => List.mem_cons_of_mem _ (List.mem_append_right _ h)) (by decide +kernel))
set_option maxRecDepth 20000 in
theorem gX12_addTold_X12_readForm : GoodIn wsX12_addTold (wsV RX12 121 RX12 yX12_readForm wsX12_readForm) := goodIn_app (goodIn_of _ (by decide +kernel)) ggX12_addTold_X12_readForm
set_option maxRecDepth 20000 in
theorem ggX12_addTold_X12_refuses : GoodIn wsX12_addTold wsX12_refuses := goodIn_ca (goodIn_r _ [26, 27, 28, 29, 55, 56, 57, 58, 59, 60, 61, 62, 63, 64, 65, 66, 67, 68, 69, 70, 71, 72, 73, 74, 75, 76, 77, 78, 79, 80, 81] (by decide +kernel) (by decide +kernel)) (goodIn_sub (fun _ h => List.mem_cons_of_mem _ (List.mem_append_right _ h)) (by decide +kernel))
set_option maxRecDepth 20000 in
theorem gX12_addTold_X12_refuses : GoodIn wsX12_addTold (wsV RX12 124 RX12 yX12_refuses wsX12_refuses) := goodIn_app (goodIn_of _ (by decide +kernel)) ggX12_addTold_X12_refuses
set_option maxRecDepth 20000 in
theorem ggX12_addTold_X12_allForms : GoodIn wsX12_addTold wsX12_allForms := goodIn_ca (goodIn_r _ [50, 1, 34, 35, 36, 5, 37, 38, 39, 40, 55, 56, 57, 58, 59, 60, 61, 62, 63, 64, 65, 66, 67, 68, 69, 70, 71, 72, 73, 74, 75, 76, 77, 78, 79, 80, 81] (by decide +kernel) (by decide +kernel)) (goodIn_sub (fun _ h => List.mem_cons_of_mem _ (List.mem_append_right _ h)) (by decide +kernel))
set_option maxRecDepth 20000 in
theorem gX12_addTold_X12_allForms : GoodIn wsX12_addTold (wsV RX12 132 RX12 yX12_allForms wsX12_allForms) := goodIn_app (goodIn_of _ (by decide +kernel)) ggX12_addTold_X12_allForms
theorem dX12_addTold_0 : decode cX12_addTold 0 = .ok (.aload_n 0, 1) := by decide +kernel
theorem dX12_addTold_1 : decode cX12_addTold 1 = .ok (.iload_n 1, 1) := by decide +kernel
theorem dX12_addTold_2 : decode cX12_addTold 2 = .ok (.iload_n 2, 1) := by decide +kernel
theorem dX12_addTold_3 : decode cX12_addTold 3 = .ok (.invokevirtual 121, 3) := by decide +kernel
theorem dX12_addTold_6 : decode cX12_addTold 6 = .ok (.istore_n 3, 1) := by decide +kernel
theorem dX12_addTold_7 : decode cX12_addTold 7 = .ok (.iload_n 3, 1) := by decide +kernel
theorem dX12_addTold_8 : decode cX12_addTold 8 = .ok (.ifCond .lt 12, 3) := by decide +kernel
theorem dX12_addTold_11 : decode cX12_addTold 11 = .ok (.aload_n 0, 1) := by decide +kernel
theorem dX12_addTold_12 : decode cX12_addTold 12 = .ok (.iconst 1, 1) := by decide +kernel
theorem dX12_addTold_13 : decode cX12_addTold 13 = .ok (.iconst (-1), 1) := by decide +kernel
theorem dX12_addTold_14 : decode cX12_addTold 14 = .ok (.iconst 1, 1) := by decide +kernel
theorem dX12_addTold_15 : decode cX12_addTold 15 = .ok (.iload_n 3, 1) := by decide +kernel
theorem dX12_addTold_16 : decode cX12_addTold 16 = .ok (.invokevirtual 124, 3) := by decide +kernel
theorem dX12_addTold_19 : decode cX12_addTold 19 = .ok (.ireturn, 1) := by decide +kernel
theorem dX12_addTold_20 : decode cX12_addTold 20 = .ok (.aload_n 0, 1) := by decide +kernel
theorem dX12_addTold_21 : decode cX12_addTold 21 = .ok (.invokevirtual 128, 3) := by decide +kernel
theorem dX12_addTold_24 : decode cX12_addTold 24 = .ok (.istore 4, 2) := by decide +kernel
theorem dX12_addTold_26 : decode cX12_addTold 26 = .ok (.iload 4, 2) := by decide +kernel
theorem dX12_addTold_28 : decode cX12_addTold 28 = .ok (.ifCond .lt 13, 3) := by decide +kernel
theorem dX12_addTold_31 : decode cX12_addTold 31 = .ok (.aload_n 0, 1) := by decide +kernel
theorem dX12_addTold_32 : decode cX12_addTold 32 = .ok (.iconst 1, 1) := by decide +kernel
theorem dX12_addTold_33 : decode cX12_addTold 33 = .ok (.iconst (-1), 1) := by decide +kernel
theorem dX12_addTold_34 : decode cX12_addTold 34 = .ok (.iconst 2, 1) := by decide +kernel
theorem dX12_addTold_35 : decode cX12_addTold 35 = .ok (.iload 4, 2) := by decide +kernel
theorem dX12_addTold_37 : decode cX12_addTold 37 = .ok (.invokevirtual 124, 3) := by decide +kernel
theorem dX12_addTold_40 : decode cX12_addTold 40 = .ok (.ireturn, 1) := by decide +kernel
theorem dX12_addTold_41 : decode cX12_addTold 41 = .ok (.aload_n 0, 1) := by decide +kernel
theorem dX12_addTold_42 : decode cX12_addTold 42 = .ok (.getfield 9, 3) := by decide +kernel
theorem dX12_addTold_45 : decode cX12_addTold 45 = .ok (.bipush 37, 2) := by decide +kernel
theorem dX12_addTold_47 : decode cX12_addTold 47 = .ok (.iaload, 1) := by decide +kernel
theorem dX12_addTold_48 : decode cX12_addTold 48 = .ok (.bipush 20, 2) := by decide +kernel
theorem dX12_addTold_50 : decode cX12_addTold 50 = .ok (.if_icmp .eq 12, 3) := by decide +kernel
theorem dX12_addTold_53 : decode cX12_addTold 53 = .ok (.aload_n 0, 1) := by decide +kernel
theorem dX12_addTold_54 : decode cX12_addTold 54 = .ok (.invokevirtual 132, 3) := by decide +kernel
theorem dX12_addTold_57 : decode cX12_addTold 57 = .ok (.bipush 60, 2) := by decide +kernel
theorem dX12_addTold_59 : decode cX12_addTold 59 = .ok (.if_icmp .ne 30, 3) := by decide +kernel
theorem dX12_addTold_62 : decode cX12_addTold 62 = .ok (.aload_n 0, 1) := by decide +kernel
theorem dX12_addTold_63 : decode cX12_addTold 63 = .ok (.iconst 1, 1) := by decide +kernel
theorem dX12_addTold_64 : decode cX12_addTold 64 = .ok (.iconst (-1), 1) := by decide +kernel
theorem dX12_addTold_65 : decode cX12_addTold 65 = .ok (.iconst 3, 1) := by decide +kernel
theorem dX12_addTold_66 : decode cX12_addTold 66 = .ok (.aload_n 0, 1) := by decide +kernel
theorem dX12_addTold_67 : decode cX12_addTold 67 = .ok (.getfield 9, 3) := by decide +kernel
theorem dX12_addTold_70 : decode cX12_addTold 70 = .ok (.bipush 37, 2) := by decide +kernel
theorem dX12_addTold_72 : decode cX12_addTold 72 = .ok (.iaload, 1) := by decide +kernel
theorem dX12_addTold_73 : decode cX12_addTold 73 = .ok (.bipush 20, 2) := by decide +kernel
theorem dX12_addTold_75 : decode cX12_addTold 75 = .ok (.if_icmp .ne 8, 3) := by decide +kernel
theorem dX12_addTold_78 : decode cX12_addTold 78 = .ok (.bipush 20, 2) := by decide +kernel
theorem dX12_addTold_80 : decode cX12_addTold 80 = .ok (.goto 5, 3) := by decide +kernel
theorem dX12_addTold_83 : decode cX12_addTold 83 = .ok (.bipush 60, 2) := by decide +kernel
theorem dX12_addTold_85 : decode cX12_addTold 85 = .ok (.invokevirtual 124, 3) := by decide +kernel
theorem dX12_addTold_88 : decode cX12_addTold 88 = .ok (.ireturn, 1) := by decide +kernel
theorem dX12_addTold_89 : decode cX12_addTold 89 = .ok (.aload_n 0, 1) := by decide +kernel
theorem dX12_addTold_90 : decode cX12_addTold 90 = .ok (.getfield 9, 3) := by decide +kernel
theorem dX12_addTold_93 : decode cX12_addTold 93 = .ok (.bipush 37, 2) := by decide +kernel
theorem dX12_addTold_95 : decode cX12_addTold 95 = .ok (.iaload, 1) := by decide +kernel
theorem dX12_addTold_96 : decode cX12_addTold 96 = .ok (.istore 5, 2) := by decide +kernel
theorem dX12_addTold_98 : decode cX12_addTold 98 = .ok (.aload_n 0, 1) := by decide +kernel
theorem dX12_addTold_99 : decode cX12_addTold 99 = .ok (.getfield 9, 3) := by decide +kernel
theorem dX12_addTold_102 : decode cX12_addTold 102 = .ok (.iload 5, 2) := by decide +kernel
theorem dX12_addTold_104 : decode cX12_addTold 104 = .ok (.invokestatic 105, 3) := by decide +kernel
theorem dX12_addTold_107 : decode cX12_addTold 107 = .ok (.iconst 0, 1) := by decide +kernel
theorem dX12_addTold_108 : decode cX12_addTold 108 = .ok (.iadd, 1) := by decide +kernel
theorem dX12_addTold_109 : decode cX12_addTold 109 = .ok (.iconst (-1), 1) := by decide +kernel
theorem dX12_addTold_110 : decode cX12_addTold 110 = .ok (.iastore, 1) := by decide +kernel
theorem dX12_addTold_111 : decode cX12_addTold 111 = .ok (.aload_n 0, 1) := by decide +kernel
theorem dX12_addTold_112 : decode cX12_addTold 112 = .ok (.getfield 9, 3) := by decide +kernel
theorem dX12_addTold_115 : decode cX12_addTold 115 = .ok (.iload 5, 2) := by decide +kernel
theorem dX12_addTold_117 : decode cX12_addTold 117 = .ok (.invokestatic 105, 3) := by decide +kernel
theorem dX12_addTold_120 : decode cX12_addTold 120 = .ok (.iconst 1, 1) := by decide +kernel
theorem dX12_addTold_121 : decode cX12_addTold 121 = .ok (.iadd, 1) := by decide +kernel
theorem dX12_addTold_122 : decode cX12_addTold 122 = .ok (.iconst 1, 1) := by decide +kernel
theorem dX12_addTold_123 : decode cX12_addTold 123 = .ok (.iastore, 1) := by decide +kernel
theorem dX12_addTold_124 : decode cX12_addTold 124 = .ok (.aload_n 0, 1) := by decide +kernel
theorem dX12_addTold_125 : decode cX12_addTold 125 = .ok (.iload 5, 2) := by decide +kernel
theorem dX12_addTold_127 : decode cX12_addTold 127 = .ok (.iconst 0, 1) := by decide +kernel
theorem dX12_addTold_128 : decode cX12_addTold 128 = .ok (.invokevirtual 135, 3) := by decide +kernel
theorem dX12_addTold_131 : decode cX12_addTold 131 = .ok (.aload_n 0, 1) := by decide +kernel
theorem dX12_addTold_132 : decode cX12_addTold 132 = .ok (.getfield 9, 3) := by decide +kernel
theorem dX12_addTold_135 : decode cX12_addTold 135 = .ok (.bipush 37, 2) := by decide +kernel
theorem dX12_addTold_137 : decode cX12_addTold 137 = .ok (.dup2, 1) := by decide +kernel
theorem dX12_addTold_138 : decode cX12_addTold 138 = .ok (.iaload, 1) := by decide +kernel
theorem dX12_addTold_139 : decode cX12_addTold 139 = .ok (.iconst 1, 1) := by decide +kernel
theorem dX12_addTold_140 : decode cX12_addTold 140 = .ok (.iadd, 1) := by decide +kernel
theorem dX12_addTold_141 : decode cX12_addTold 141 = .ok (.iastore, 1) := by decide +kernel
theorem dX12_addTold_142 : decode cX12_addTold 142 = .ok (.iload 5, 2) := by decide +kernel
theorem dX12_addTold_144 : decode cX12_addTold 144 = .ok (.ireturn, 1) := by decide +kernel
theorem dX12_layAhead_0 : decode cX12_layAhead 0 = .ok (.iconst 0, 1) := by decide +kernel
theorem dX12_layAhead_1 : decode cX12_layAhead 1 = .ok (.istore_n 1, 1) := by decide +kernel
theorem dX12_layAhead_2 : decode cX12_layAhead 2 = .ok (.iload_n 1, 1) := by decide +kernel
theorem dX12_layAhead_3 : decode cX12_layAhead 3 = .ok (.sipush 1191, 3) := by decide +kernel
theorem dX12_layAhead_6 : decode cX12_layAhead 6 = .ok (.if_icmp .ge 21, 3) := by decide +kernel
theorem dX12_layAhead_9 : decode cX12_layAhead 9 = .ok (.aload_n 0, 1) := by decide +kernel
theorem dX12_layAhead_10 : decode cX12_layAhead 10 = .ok (.getfield 32, 3) := by decide +kernel
theorem dX12_layAhead_13 : decode cX12_layAhead 13 = .ok (.iload_n 1, 1) := by decide +kernel
theorem dX12_layAhead_14 : decode cX12_layAhead 14 = .ok (.aload_n 0, 1) := by decide +kernel
theorem dX12_layAhead_15 : decode cX12_layAhead 15 = .ok (.getfield 9, 3) := by decide +kernel
theorem dX12_layAhead_18 : decode cX12_layAhead 18 = .ok (.iload_n 1, 1) := by decide +kernel
theorem dX12_layAhead_19 : decode cX12_layAhead 19 = .ok (.iaload, 1) := by decide +kernel
theorem dX12_layAhead_20 : decode cX12_layAhead 20 = .ok (.iastore, 1) := by decide +kernel
theorem dX12_layAhead_21 : decode cX12_layAhead 21 = .ok (.iinc 1 1, 3) := by decide +kernel
theorem dX12_layAhead_24 : decode cX12_layAhead 24 = .ok (.goto (-22), 3) := by decide +kernel
theorem dX12_layAhead_27 : decode cX12_layAhead 27 = .ok (.return_, 1) := by decide +kernel
set_option maxRecDepth 20000 in
theorem ggX12_done_X12_refuse : GoodIn wsX12_done wsX12_refuse := goodIn_r _ [7, 1, 14, 15, 16, 17, 18, 19, 20, 21, 22, 23, 24, 25, 26, 27, 28, 29, 30, 31, 32, 33, 34, 35, 36, 37, 38, 39, 40] (by decide +kernel) (by decide +kernel)
set_option maxRecDepth 20000 in
theorem gX12_done_X12_refuse : GoodIn wsX12_done (wsV RX12 79 RX12 yX12_refuse wsX12_refuse) := goodIn_app (goodIn_of _ (by decide +kernel)) ggX12_done_X12_refuse
set_option maxRecDepth 20000 in
theorem ggX12_done_X12_keepRow : GoodIn wsX12_done wsX12_keepRow := goodIn_ca (goodIn_r _ [11, 12, 13, 14, 15, 16, 17, 18, 19, 20, 21, 22, 23, 24, 25, 26, 27, 28, 29, 30, 31, 32, 33, 34, 35, 36, 37, 38, 39, 40] (by decide +kernel) (by decide +kernel)) (goodIn_sub (fun _ h => List.mem_cons_of_mem _ (List.mem_append_right _ h)) (by decide +kernel))
set_option maxRecDepth 20000 in
theorem gX12_done_X12_keepRow : GoodIn wsX12_done (wsV RX12 68 RX12 yX12_keepRow wsX12_keepRow) := goodIn_app (goodIn_of _ (by decide +kernel)) ggX12_done_X12_keepRow
theorem dX12_done_0 : decode cX12_done 0 = .ok (.iload_n 1, 1) := by decide +kernel
theorem dX12_done_1 : decode cX12_done 1 = .ok (.ifCond .ge 12, 3) := by decide +kernel
theorem dX12_done_4 : decode cX12_done 4 = .ok (.aload_n 0, 1) := by decide +kernel
theorem dX12_done_5 : decode cX12_done 5 = .ok (.aload_n 0, 1) := by decide +kernel
theorem dX12_done_6 : decode cX12_done 6 = .ok (.getfield 62, 3) := by decide +kernel
theorem dX12_done_9 : decode cX12_done 9 = .ok (.invokevirtual 79, 3) := by decide +kernel
theorem dX12_done_12 : decode cX12_done 12 = .ok (.ireturn, 1) := by decide +kernel
theorem dX12_done_13 : decode cX12_done 13 = .ok (.aload_n 0, 1) := by decide +kernel
theorem dX12_done_14 : decode cX12_done 14 = .ok (.aload_n 0, 1) := by decide +kernel
theorem dX12_done_15 : decode cX12_done 15 = .ok (.getfield 32, 3) := by decide +kernel
theorem dX12_done_18 : decode cX12_done 18 = .ok (.invokevirtual 68, 3) := by decide +kernel
theorem dX12_done_21 : decode cX12_done 21 = .ok (.aload_n 0, 1) := by decide +kernel
theorem dX12_done_22 : decode cX12_done 22 = .ok (.iconst 0, 1) := by decide +kernel
theorem dX12_done_23 : decode cX12_done 23 = .ok (.putfield 62, 3) := by decide +kernel
theorem dX12_done_26 : decode cX12_done 26 = .ok (.iload_n 1, 1) := by decide +kernel
theorem dX12_done_27 : decode cX12_done 27 = .ok (.ireturn, 1) := by decide +kernel
set_option maxRecDepth 20000 in
theorem ggX12_add_X12_layAhead : GoodIn wsX12_add wsX12_layAhead := goodIn_ca (goodIn_r _ [7, 8, 9, 80, 81, 82, 83, 84, 85, 86, 87, 88, 89, 90, 91, 92, 93, 94, 95, 96, 97, 98, 99, 100, 101, 102, 103, 104, 105, 106] (by decide +kernel) (by decide +kernel)) (goodIn_sub (fun _ h => List.mem_cons_of_mem _ (List.mem_append_right _ h)) (by decide +kernel))
set_option maxRecDepth 20000 in
theorem gX12_add_X12_layAhead : GoodIn wsX12_add (wsV RX12 159 RX12 yX12_layAhead wsX12_layAhead) := goodIn_app (goodIn_of _ (by decide +kernel)) ggX12_add_X12_layAhead
set_option maxRecDepth 20000 in
theorem ggX12_add_X12_addTold : GoodIn wsX12_add wsX12_addTold := goodIn_ca (goodIn_r _ [13, 9, 14, 15, 16, 6, 17, 18, 19, 20, 21, 22, 23, 24, 25, 26, 27, 28, 29, 30, 31, 32, 33, 34, 35, 36, 37, 38, 39, 40, 41, 42, 43, 44, 45, 46, 47, 48, 49, 50, 51, 52, 53, 54, 55, 56, 57, 58, 59, 60, 61, 62, 63, 64, 65, 80, 81, 82, 83, 84, 85, 86, 87, 88, 89, 90, 91, 92, 93, 94, 95, 96, 97, 98, 99, 100, 101, 102, 103, 104, 105, 106] (by decide +kernel) (by decide +kernel)) (goodIn_sub (fun _ h => List.mem_cons_of_mem _ (List.mem_append_right _ h)) (by decide +kernel))
set_option maxRecDepth 20000 in
theorem gX12_add_X12_addTold : GoodIn wsX12_add (wsV RX12 162 RX12 yX12_addTold wsX12_addTold) := goodIn_app (goodIn_of _ (by decide +kernel)) ggX12_add_X12_addTold
set_option maxRecDepth 20000 in
theorem ggX12_add_X12_done : GoodIn wsX12_add wsX12_done := goodIn_ca (goodIn_r _ [69, 2, 8, 70, 71, 72, 6, 73, 74, 75, 76, 77, 78, 79, 80, 81, 82, 83, 84, 85, 86, 87, 88, 89, 90, 91, 92, 93, 94, 95, 96, 97, 98, 99, 100, 101, 102, 103, 104, 105, 106] (by decide +kernel) (by decide +kernel)) (goodIn_sub (fun _ h => List.mem_cons_of_mem _ (List.mem_append_right _ h)) (by decide +kernel))
set_option maxRecDepth 20000 in
theorem gX12_add_X12_done : GoodIn wsX12_add (wsV RX12 165 RX12 yX12_done wsX12_done) := goodIn_app (goodIn_of _ (by decide +kernel)) ggX12_add_X12_done
theorem dX12_add_0 : decode cX12_add 0 = .ok (.aload_n 0, 1) := by decide +kernel
theorem dX12_add_1 : decode cX12_add 1 = .ok (.invokevirtual 159, 3) := by decide +kernel
theorem dX12_add_4 : decode cX12_add 4 = .ok (.aload_n 0, 1) := by decide +kernel
theorem dX12_add_5 : decode cX12_add 5 = .ok (.getfield 76, 3) := by decide +kernel
theorem dX12_add_8 : decode cX12_add 8 = .ok (.istore_n 1, 1) := by decide +kernel
theorem dX12_add_9 : decode cX12_add 9 = .ok (.aload_n 0, 1) := by decide +kernel
theorem dX12_add_10 : decode cX12_add 10 = .ok (.iconst 0, 1) := by decide +kernel
theorem dX12_add_11 : decode cX12_add 11 = .ok (.putfield 76, 3) := by decide +kernel
theorem dX12_add_14 : decode cX12_add 14 = .ok (.aload_n 0, 1) := by decide +kernel
theorem dX12_add_15 : decode cX12_add 15 = .ok (.iconst 1, 1) := by decide +kernel
theorem dX12_add_16 : decode cX12_add 16 = .ok (.putfield 62, 3) := by decide +kernel
theorem dX12_add_19 : decode cX12_add 19 = .ok (.aload_n 0, 1) := by decide +kernel
theorem dX12_add_20 : decode cX12_add 20 = .ok (.aload_n 0, 1) := by decide +kernel
theorem dX12_add_21 : decode cX12_add 21 = .ok (.iconst 0, 1) := by decide +kernel
theorem dX12_add_22 : decode cX12_add 22 = .ok (.iload_n 1, 1) := by decide +kernel
theorem dX12_add_23 : decode cX12_add 23 = .ok (.invokevirtual 162, 3) := by decide +kernel
theorem dX12_add_26 : decode cX12_add 26 = .ok (.invokevirtual 165, 3) := by decide +kernel
theorem dX12_add_29 : decode cX12_add 29 = .ok (.ireturn, 1) := by decide +kernel
set_option maxRecDepth 20000 in
theorem ggX12_addVariant_X12_isHead : GoodIn wsX12_addVariant wsX12_isHead := goodIn_ca (goodIn_r _ [7, 8, 9, 10, 6, 11, 84, 85, 86, 87, 88, 89, 90, 91, 92, 93, 94, 95, 96, 97, 98, 99, 100, 101, 102, 103, 104, 105, 106, 107, 108, 109, 110] (by decide +kernel) (by decide +kernel)) (goodIn_sub (fun _ h => List.mem_cons_of_mem _ (List.mem_append_right _ h)) (by decide +kernel))
set_option maxRecDepth 20000 in
theorem gX12_addVariant_X12_isHead : GoodIn wsX12_addVariant (wsV RX12 168 RX12 yX12_isHead wsX12_isHead) := goodIn_app (goodIn_of _ (by decide +kernel)) ggX12_addVariant_X12_isHead
set_option maxRecDepth 20000 in
theorem ggX12_addVariant_X12_layAhead : GoodIn wsX12_addVariant wsX12_layAhead := goodIn_ca (goodIn_r _ [15, 16, 8, 84, 85, 86, 87, 88, 89, 90, 91, 92, 93, 94, 95, 96, 97, 98, 99, 100, 101, 102, 103, 104, 105, 106, 107, 108, 109, 110] (by decide +kernel) (by decide +kernel)) (goodIn_sub (fun _ h => List.mem_cons_of_mem _ (List.mem_append_right _ h)) (by decide +kernel))
set_option maxRecDepth 20000 in
theorem gX12_addVariant_X12_layAhead : GoodIn wsX12_addVariant (wsV RX12 159 RX12 yX12_layAhead wsX12_layAhead) := goodIn_app (goodIn_of _ (by decide +kernel)) ggX12_addVariant_X12_layAhead
set_option maxRecDepth 20000 in
theorem ggX12_addVariant_X12_done : GoodIn wsX12_addVariant wsX12_done := goodIn_ca (goodIn_r _ [73, 1, 16, 74, 75, 76, 6, 77, 78, 79, 80, 81, 82, 83, 84, 85, 86, 87, 88, 89, 90, 91, 92, 93, 94, 95, 96, 97, 98, 99, 100, 101, 102, 103, 104, 105, 106, 107, 108, 109, 110] (by decide +kernel) (by decide +kernel)) (goodIn_sub (fun _ h => List.mem_cons_of_mem _ (List.mem_append_right _ h)) (by decide +kernel))
set_option maxRecDepth 20000 in
theorem gX12_addVariant_X12_done : GoodIn wsX12_addVariant (wsV RX12 165 RX12 yX12_done wsX12_done) := goodIn_app (goodIn_of _ (by decide +kernel)) ggX12_addVariant_X12_done
theorem dX12_addVariant_0 : decode cX12_addVariant 0 = .ok (.aload_n 0, 1) := by decide +kernel
theorem dX12_addVariant_1 : decode cX12_addVariant 1 = .ok (.aload_n 0, 1) := by decide +kernel
theorem dX12_addVariant_2 : decode cX12_addVariant 2 = .ok (.iload_n 1, 1) := by decide +kernel
theorem dX12_addVariant_3 : decode cX12_addVariant 3 = .ok (.invokevirtual 168, 3) := by decide +kernel
theorem dX12_addVariant_6 : decode cX12_addVariant 6 = .ok (.ifCond .eq 7, 3) := by decide +kernel
theorem dX12_addVariant_9 : decode cX12_addVariant 9 = .ok (.iconst 0, 1) := by decide +kernel
theorem dX12_addVariant_10 : decode cX12_addVariant 10 = .ok (.goto 4, 3) := by decide +kernel
theorem dX12_addVariant_13 : decode cX12_addVariant 13 = .ok (.iconst 1, 1) := by decide +kernel
theorem dX12_addVariant_14 : decode cX12_addVariant 14 = .ok (.putfield 62, 3) := by decide +kernel
theorem dX12_addVariant_17 : decode cX12_addVariant 17 = .ok (.aload_n 0, 1) := by decide +kernel
theorem dX12_addVariant_18 : decode cX12_addVariant 18 = .ok (.getfield 62, 3) := by decide +kernel
theorem dX12_addVariant_21 : decode cX12_addVariant 21 = .ok (.ifCond .le 5, 3) := by decide +kernel
theorem dX12_addVariant_24 : decode cX12_addVariant 24 = .ok (.iconst 0, 1) := by decide +kernel
theorem dX12_addVariant_25 : decode cX12_addVariant 25 = .ok (.ireturn, 1) := by decide +kernel
theorem dX12_addVariant_26 : decode cX12_addVariant 26 = .ok (.aload_n 0, 1) := by decide +kernel
theorem dX12_addVariant_27 : decode cX12_addVariant 27 = .ok (.invokevirtual 159, 3) := by decide +kernel
theorem dX12_addVariant_30 : decode cX12_addVariant 30 = .ok (.aload_n 0, 1) := by decide +kernel
theorem dX12_addVariant_31 : decode cX12_addVariant 31 = .ok (.getfield 76, 3) := by decide +kernel
theorem dX12_addVariant_34 : decode cX12_addVariant 34 = .ok (.istore_n 2, 1) := by decide +kernel
theorem dX12_addVariant_35 : decode cX12_addVariant 35 = .ok (.aload_n 0, 1) := by decide +kernel
theorem dX12_addVariant_36 : decode cX12_addVariant 36 = .ok (.iconst 0, 1) := by decide +kernel
theorem dX12_addVariant_37 : decode cX12_addVariant 37 = .ok (.putfield 76, 3) := by decide +kernel
theorem dX12_addVariant_40 : decode cX12_addVariant 40 = .ok (.aload_n 0, 1) := by decide +kernel
theorem dX12_addVariant_41 : decode cX12_addVariant 41 = .ok (.iconst 2, 1) := by decide +kernel
theorem dX12_addVariant_42 : decode cX12_addVariant 42 = .ok (.putfield 62, 3) := by decide +kernel
theorem dX12_addVariant_45 : decode cX12_addVariant 45 = .ok (.aload_n 0, 1) := by decide +kernel
theorem dX12_addVariant_46 : decode cX12_addVariant 46 = .ok (.aload_n 0, 1) := by decide +kernel
theorem dX12_addVariant_47 : decode cX12_addVariant 47 = .ok (.iload_n 1, 1) := by decide +kernel
theorem dX12_addVariant_48 : decode cX12_addVariant 48 = .ok (.iconst 0, 1) := by decide +kernel
theorem dX12_addVariant_49 : decode cX12_addVariant 49 = .ok (.iload_n 2, 1) := by decide +kernel
theorem dX12_addVariant_50 : decode cX12_addVariant 50 = .ok (.invokevirtual 171, 3) := by decide +kernel
theorem dX12_addVariant_53 : decode cX12_addVariant 53 = .ok (.invokevirtual 165, 3) := by decide +kernel
theorem dX12_addVariant_56 : decode cX12_addVariant 56 = .ok (.ireturn, 1) := by decide +kernel
set_option maxRecDepth 20000 in
theorem ggX12_rename_X12_isHead : GoodIn wsX12_rename wsX12_isHead := goodIn_ca (goodIn_r _ [8, 3, 9, 10, 7, 11, 71, 72, 73, 74, 75, 76, 77, 78, 79, 80, 81, 82, 83, 84, 85, 86, 87, 88, 89, 90, 91, 92, 93, 94, 95, 96, 97] (by decide +kernel) (by decide +kernel)) (goodIn_sub (fun _ h => List.mem_cons_of_mem _ (List.mem_append_right _ h)) (by decide +kernel))
set_option maxRecDepth 20000 in
theorem gX12_rename_X12_isHead : GoodIn wsX12_rename (wsV RX12 168 RX12 yX12_isHead wsX12_isHead) := goodIn_app (goodIn_of _ (by decide +kernel)) ggX12_rename_X12_isHead
set_option maxRecDepth 20000 in
theorem ggX12_rename_X12_readForm : GoodIn wsX12_rename wsX12_readForm := goodIn_ca (goodIn_r _ [15, 16, 17, 18, 19, 20, 21, 22, 23, 7, 24, 9, 10, 11, 25, 26, 27, 28, 3, 71, 72, 73, 74, 75, 76, 77, 78, 79, 80, 81, 82, 83, 84, 85, 86, 87, 88, 89, 90, 91, 92, 93, 94, 95, 96, 97] (by decide +kernel) (by decide +kernel)) (goodIn_sub (fun _ h => List.mem_cons_of_mem _ (List.mem_append_right _ h)) (by decide +kernel))
set_option maxRecDepth 20000 in
theorem gX12_rename_X12_readForm : GoodIn wsX12_rename (wsV RX12 121 RX12 yX12_readForm wsX12_readForm) := goodIn_app (goodIn_of _ (by decide +kernel)) ggX12_rename_X12_readForm
set_option maxRecDepth 20000 in
theorem ggX12_rename_X12_refuses : GoodIn wsX12_rename wsX12_refuses := goodIn_ca (goodIn_r _ [49, 50, 51, 52, 71, 72, 73, 74, 75, 76, 77, 78, 79, 80, 81, 82, 83, 84, 85, 86, 87, 88, 89, 90, 91, 92, 93, 94, 95, 96, 97] (by decide +kernel) (by decide +kernel)) (goodIn_sub (fun _ h => List.mem_cons_of_mem _ (List.mem_append_right _ h)) (by decide +kernel))
set_option maxRecDepth 20000 in
theorem gX12_rename_X12_refuses : GoodIn wsX12_rename (wsV RX12 124 RX12 yX12_refuses wsX12_refuses) := goodIn_app (goodIn_of _ (by decide +kernel)) ggX12_rename_X12_refuses
set_option maxRecDepth 20000 in
theorem ggX12_rename_X12_refuse : GoodIn wsX12_rename wsX12_refuse := goodIn_r _ [56, 1, 71, 72, 73, 74, 75, 76, 77, 78, 79, 80, 81, 82, 83, 84, 85, 86, 87, 88, 89, 90, 91, 92, 93, 94, 95, 96, 97] (by decide +kernel) (by decide +kernel)
set_option maxRecDepth 20000 in
theorem gX12_rename_X12_refuse : GoodIn wsX12_rename (wsV RX12 79 RX12 yX12_refuse wsX12_refuse) := goodIn_app (goodIn_of _ (by decide +kernel)) ggX12_rename_X12_refuse
set_option maxRecDepth 20000 in
theorem ggX12_rename_X12_keep : GoodIn wsX12_rename wsX12_keep := goodIn_ca (goodIn_r _ [60, 3, 61, 62, 63, 7, 64, 65, 66, 71, 72, 73, 74, 75, 76, 77, 78, 79, 80, 81, 82, 83, 84, 85, 86, 87, 88, 89, 90, 91, 92, 93, 94, 95, 96, 97] (by decide +kernel) (by decide +kernel)) (goodIn_sub (fun _ h => List.mem_cons_of_mem _ (List.mem_append_right _ h)) (by decide +kernel))
set_option maxRecDepth 20000 in
theorem gX12_rename_X12_keep : GoodIn wsX12_rename (wsV RX12 90 RX12 yX12_keep wsX12_keep) := goodIn_app (goodIn_of _ (by decide +kernel)) ggX12_rename_X12_keep
theorem dX12_rename_0 : decode cX12_rename 0 = .ok (.aload_n 0, 1) := by decide +kernel
theorem dX12_rename_1 : decode cX12_rename 1 = .ok (.aload_n 0, 1) := by decide +kernel
theorem dX12_rename_2 : decode cX12_rename 2 = .ok (.iload_n 1, 1) := by decide +kernel
theorem dX12_rename_3 : decode cX12_rename 3 = .ok (.invokevirtual 168, 3) := by decide +kernel
theorem dX12_rename_6 : decode cX12_rename 6 = .ok (.ifCond .eq 7, 3) := by decide +kernel
theorem dX12_rename_9 : decode cX12_rename 9 = .ok (.iconst 0, 1) := by decide +kernel
theorem dX12_rename_10 : decode cX12_rename 10 = .ok (.goto 4, 3) := by decide +kernel
theorem dX12_rename_13 : decode cX12_rename 13 = .ok (.iconst 1, 1) := by decide +kernel
theorem dX12_rename_14 : decode cX12_rename 14 = .ok (.putfield 62, 3) := by decide +kernel
theorem dX12_rename_17 : decode cX12_rename 17 = .ok (.aload_n 0, 1) := by decide +kernel
theorem dX12_rename_18 : decode cX12_rename 18 = .ok (.getfield 62, 3) := by decide +kernel
theorem dX12_rename_21 : decode cX12_rename 21 = .ok (.ifCond .le 5, 3) := by decide +kernel
theorem dX12_rename_24 : decode cX12_rename 24 = .ok (.iconst 0, 1) := by decide +kernel
theorem dX12_rename_25 : decode cX12_rename 25 = .ok (.ireturn, 1) := by decide +kernel
theorem dX12_rename_26 : decode cX12_rename 26 = .ok (.aload_n 0, 1) := by decide +kernel
theorem dX12_rename_27 : decode cX12_rename 27 = .ok (.iconst 0, 1) := by decide +kernel
theorem dX12_rename_28 : decode cX12_rename 28 = .ok (.aload_n 0, 1) := by decide +kernel
theorem dX12_rename_29 : decode cX12_rename 29 = .ok (.getfield 76, 3) := by decide +kernel
theorem dX12_rename_32 : decode cX12_rename 32 = .ok (.invokevirtual 121, 3) := by decide +kernel
theorem dX12_rename_35 : decode cX12_rename 35 = .ok (.istore_n 2, 1) := by decide +kernel
theorem dX12_rename_36 : decode cX12_rename 36 = .ok (.aload_n 0, 1) := by decide +kernel
theorem dX12_rename_37 : decode cX12_rename 37 = .ok (.iconst 0, 1) := by decide +kernel
theorem dX12_rename_38 : decode cX12_rename 38 = .ok (.putfield 76, 3) := by decide +kernel
theorem dX12_rename_41 : decode cX12_rename 41 = .ok (.aload_n 0, 1) := by decide +kernel
theorem dX12_rename_42 : decode cX12_rename 42 = .ok (.invokevirtual 128, 3) := by decide +kernel
theorem dX12_rename_45 : decode cX12_rename 45 = .ok (.istore_n 3, 1) := by decide +kernel
theorem dX12_rename_46 : decode cX12_rename 46 = .ok (.iload_n 2, 1) := by decide +kernel
theorem dX12_rename_47 : decode cX12_rename 47 = .ok (.ifCond .ge 7, 3) := by decide +kernel
theorem dX12_rename_50 : decode cX12_rename 50 = .ok (.iload_n 3, 1) := by decide +kernel
theorem dX12_rename_51 : decode cX12_rename 51 = .ok (.ifCond .lt 44, 3) := by decide +kernel
theorem dX12_rename_54 : decode cX12_rename 54 = .ok (.aload_n 0, 1) := by decide +kernel
theorem dX12_rename_55 : decode cX12_rename 55 = .ok (.iconst 5, 1) := by decide +kernel
theorem dX12_rename_56 : decode cX12_rename 56 = .ok (.iload_n 1, 1) := by decide +kernel
theorem dX12_rename_57 : decode cX12_rename 57 = .ok (.iload_n 2, 1) := by decide +kernel
theorem dX12_rename_58 : decode cX12_rename 58 = .ok (.ifCond .lt 7, 3) := by decide +kernel
theorem dX12_rename_61 : decode cX12_rename 61 = .ok (.iconst 1, 1) := by decide +kernel
theorem dX12_rename_62 : decode cX12_rename 62 = .ok (.goto 4, 3) := by decide +kernel
theorem dX12_rename_65 : decode cX12_rename 65 = .ok (.iconst 2, 1) := by decide +kernel
theorem dX12_rename_66 : decode cX12_rename 66 = .ok (.iload_n 2, 1) := by decide +kernel
theorem dX12_rename_67 : decode cX12_rename 67 = .ok (.ifCond .lt 7, 3) := by decide +kernel
theorem dX12_rename_70 : decode cX12_rename 70 = .ok (.iload_n 2, 1) := by decide +kernel
theorem dX12_rename_71 : decode cX12_rename 71 = .ok (.goto 4, 3) := by decide +kernel
theorem dX12_rename_74 : decode cX12_rename 74 = .ok (.iload_n 3, 1) := by decide +kernel
theorem dX12_rename_75 : decode cX12_rename 75 = .ok (.invokevirtual 124, 3) := by decide +kernel
theorem dX12_rename_78 : decode cX12_rename 78 = .ok (.istore 4, 2) := by decide +kernel
theorem dX12_rename_80 : decode cX12_rename 80 = .ok (.aload_n 0, 1) := by decide +kernel
theorem dX12_rename_81 : decode cX12_rename 81 = .ok (.iload 4, 2) := by decide +kernel
theorem dX12_rename_83 : decode cX12_rename 83 = .ok (.ifCond .ge 7, 3) := by decide +kernel
theorem dX12_rename_86 : decode cX12_rename 86 = .ok (.iconst 2, 1) := by decide +kernel
theorem dX12_rename_87 : decode cX12_rename 87 = .ok (.goto 4, 3) := by decide +kernel
theorem dX12_rename_90 : decode cX12_rename 90 = .ok (.iconst 0, 1) := by decide +kernel
theorem dX12_rename_91 : decode cX12_rename 91 = .ok (.invokevirtual 79, 3) := by decide +kernel
theorem dX12_rename_94 : decode cX12_rename 94 = .ok (.ireturn, 1) := by decide +kernel
theorem dX12_rename_95 : decode cX12_rename 95 = .ok (.aload_n 0, 1) := by decide +kernel
theorem dX12_rename_96 : decode cX12_rename 96 = .ok (.invokevirtual 90, 3) := by decide +kernel
theorem dX12_rename_99 : decode cX12_rename 99 = .ok (.aload_n 0, 1) := by decide +kernel
theorem dX12_rename_100 : decode cX12_rename 100 = .ok (.getfield 9, 3) := by decide +kernel
theorem dX12_rename_103 : decode cX12_rename 103 = .ok (.iload_n 1, 1) := by decide +kernel
theorem dX12_rename_104 : decode cX12_rename 104 = .ok (.iconst 0, 1) := by decide +kernel
theorem dX12_rename_105 : decode cX12_rename 105 = .ok (.invokestatic 111, 3) := by decide +kernel
theorem dX12_rename_108 : decode cX12_rename 108 = .ok (.iaload, 1) := by decide +kernel
theorem dX12_rename_109 : decode cX12_rename 109 = .ok (.istore 4, 2) := by decide +kernel
theorem dX12_rename_111 : decode cX12_rename 111 = .ok (.aload_n 0, 1) := by decide +kernel
theorem dX12_rename_112 : decode cX12_rename 112 = .ok (.iload_n 1, 1) := by decide +kernel
theorem dX12_rename_113 : decode cX12_rename 113 = .ok (.iconst 0, 1) := by decide +kernel
theorem dX12_rename_114 : decode cX12_rename 114 = .ok (.invokevirtual 135, 3) := by decide +kernel
theorem dX12_rename_117 : decode cX12_rename 117 = .ok (.iload 4, 2) := by decide +kernel
theorem dX12_rename_119 : decode cX12_rename 119 = .ok (.ireturn, 1) := by decide +kernel
set_option maxRecDepth 20000 in
theorem ggX12_lacks_X12_isHead : GoodIn wsX12_lacks wsX12_isHead := goodIn_ca (goodIn_r _ [5, 6, 7, 8, 4, 9, 17, 18, 19, 20, 21, 22, 23, 24, 25, 26, 27, 28, 29, 30, 31, 32, 33, 34, 35, 36, 37, 38, 39, 40, 41, 42, 43] (by decide +kernel) (by decide +kernel)) (goodIn_sub (fun _ h => List.mem_cons_of_mem _ (List.mem_append_right _ h)) (by decide +kernel))
set_option maxRecDepth 20000 in
theorem gX12_lacks_X12_isHead : GoodIn wsX12_lacks (wsV RX12 168 RX12 yX12_isHead wsX12_isHead) := goodIn_app (goodIn_of _ (by decide +kernel)) ggX12_lacks_X12_isHead
set_option maxRecDepth 20000 in
theorem ggX12_lacks_X12_in : GoodIn wsX12_lacks wsX12_in := goodIn_r _ [9] (by decide +kernel) (by decide +kernel)
set_option maxRecDepth 20000 in
theorem gX12_lacks_X12_in : GoodIn wsX12_lacks (va_wsS RX12 72 yX12_in wsX12_in) := goodIn_app (goodIn_of _ (by decide +kernel)) ggX12_lacks_X12_in
theorem dX12_lacks_0 : decode cX12_lacks 0 = .ok (.aload_n 0, 1) := by decide +kernel
theorem dX12_lacks_1 : decode cX12_lacks 1 = .ok (.iload_n 1, 1) := by decide +kernel
theorem dX12_lacks_2 : decode cX12_lacks 2 = .ok (.invokevirtual 168, 3) := by decide +kernel
theorem dX12_lacks_5 : decode cX12_lacks 5 = .ok (.ifCond .ne 7, 3) := by decide +kernel
theorem dX12_lacks_8 : decode cX12_lacks 8 = .ok (.iconst 1, 1) := by decide +kernel
theorem dX12_lacks_9 : decode cX12_lacks 9 = .ok (.goto 23, 3) := by decide +kernel
theorem dX12_lacks_12 : decode cX12_lacks 12 = .ok (.iload_n 2, 1) := by decide +kernel
theorem dX12_lacks_13 : decode cX12_lacks 13 = .ok (.iconst 0, 1) := by decide +kernel
theorem dX12_lacks_14 : decode cX12_lacks 14 = .ok (.aload_n 0, 1) := by decide +kernel
theorem dX12_lacks_15 : decode cX12_lacks 15 = .ok (.iload_n 1, 1) := by decide +kernel
theorem dX12_lacks_16 : decode cX12_lacks 16 = .ok (.invokevirtual 108, 3) := by decide +kernel
theorem dX12_lacks_19 : decode cX12_lacks 19 = .ok (.iconst 2, 1) := by decide +kernel
theorem dX12_lacks_20 : decode cX12_lacks 20 = .ok (.isub, 1) := by decide +kernel
theorem dX12_lacks_21 : decode cX12_lacks 21 = .ok (.invokestatic 72, 3) := by decide +kernel
theorem dX12_lacks_24 : decode cX12_lacks 24 = .ok (.ifCond .ne 7, 3) := by decide +kernel
theorem dX12_lacks_27 : decode cX12_lacks 27 = .ok (.iconst 2, 1) := by decide +kernel
theorem dX12_lacks_28 : decode cX12_lacks 28 = .ok (.goto 4, 3) := by decide +kernel
theorem dX12_lacks_31 : decode cX12_lacks 31 = .ok (.iconst 0, 1) := by decide +kernel
theorem dX12_lacks_32 : decode cX12_lacks 32 = .ok (.ireturn, 1) := by decide +kernel
set_option maxRecDepth 20000 in
theorem ggX12_promote_X12_lacks : GoodIn wsX12_promote wsX12_lacks := goodIn_ca (goodIn_r _ [7, 8, 9, 10, 6, 11, 2, 12, 13, 14, 15, 16, 17, 18, 19, 20, 21, 35, 36, 37, 38, 39, 40, 41, 42, 43, 44, 45, 46, 47, 48, 49, 50, 51, 52, 53, 54, 55, 56, 57, 58, 59, 60, 61] (by decide +kernel) (by decide +kernel)) (goodIn_sub (fun _ h => List.mem_cons_of_mem _ (List.mem_append_right _ h)) (by decide +kernel))
set_option maxRecDepth 20000 in
theorem gX12_promote_X12_lacks : GoodIn wsX12_promote (wsV RX12 175 RX12 yX12_lacks wsX12_lacks) := goodIn_app (goodIn_of _ (by decide +kernel)) ggX12_promote_X12_lacks
set_option maxRecDepth 20000 in
theorem ggX12_promote_X12_keep : GoodIn wsX12_promote wsX12_keep := goodIn_ca (goodIn_r _ [25, 2, 26, 27, 28, 6, 29, 30, 31, 35, 36, 37, 38, 39, 40, 41, 42, 43, 44, 45, 46, 47, 48, 49, 50, 51, 52, 53, 54, 55, 56, 57, 58, 59, 60, 61] (by decide +kernel) (by decide +kernel)) (goodIn_sub (fun _ h => List.mem_cons_of_mem _ (List.mem_append_right _ h)) (by decide +kernel))
set_option maxRecDepth 20000 in
theorem gX12_promote_X12_keep : GoodIn wsX12_promote (wsV RX12 90 RX12 yX12_keep wsX12_keep) := goodIn_app (goodIn_of _ (by decide +kernel)) ggX12_promote_X12_keep
theorem dX12_promote_0 : decode cX12_promote 0 = .ok (.aload_n 0, 1) := by decide +kernel
theorem dX12_promote_1 : decode cX12_promote 1 = .ok (.aload_n 0, 1) := by decide +kernel
theorem dX12_promote_2 : decode cX12_promote 2 = .ok (.iload_n 1, 1) := by decide +kernel
theorem dX12_promote_3 : decode cX12_promote 3 = .ok (.iload_n 2, 1) := by decide +kernel
theorem dX12_promote_4 : decode cX12_promote 4 = .ok (.invokevirtual 175, 3) := by decide +kernel
theorem dX12_promote_7 : decode cX12_promote 7 = .ok (.putfield 62, 3) := by decide +kernel
theorem dX12_promote_10 : decode cX12_promote 10 = .ok (.aload_n 0, 1) := by decide +kernel
theorem dX12_promote_11 : decode cX12_promote 11 = .ok (.getfield 62, 3) := by decide +kernel
theorem dX12_promote_14 : decode cX12_promote 14 = .ok (.ifCond .le 5, 3) := by decide +kernel
theorem dX12_promote_17 : decode cX12_promote 17 = .ok (.iconst 0, 1) := by decide +kernel
theorem dX12_promote_18 : decode cX12_promote 18 = .ok (.ireturn, 1) := by decide +kernel
theorem dX12_promote_19 : decode cX12_promote 19 = .ok (.aload_n 0, 1) := by decide +kernel
theorem dX12_promote_20 : decode cX12_promote 20 = .ok (.invokevirtual 90, 3) := by decide +kernel
theorem dX12_promote_23 : decode cX12_promote 23 = .ok (.iload_n 1, 1) := by decide +kernel
theorem dX12_promote_24 : decode cX12_promote 24 = .ok (.iconst 0, 1) := by decide +kernel
theorem dX12_promote_25 : decode cX12_promote 25 = .ok (.invokestatic 111, 3) := by decide +kernel
theorem dX12_promote_28 : decode cX12_promote 28 = .ok (.istore_n 3, 1) := by decide +kernel
theorem dX12_promote_29 : decode cX12_promote 29 = .ok (.iload_n 1, 1) := by decide +kernel
theorem dX12_promote_30 : decode cX12_promote 30 = .ok (.iconst 1, 1) := by decide +kernel
theorem dX12_promote_31 : decode cX12_promote 31 = .ok (.iload_n 2, 1) := by decide +kernel
theorem dX12_promote_32 : decode cX12_promote 32 = .ok (.iadd, 1) := by decide +kernel
theorem dX12_promote_33 : decode cX12_promote 33 = .ok (.invokestatic 111, 3) := by decide +kernel
theorem dX12_promote_36 : decode cX12_promote 36 = .ok (.istore 4, 2) := by decide +kernel
theorem dX12_promote_38 : decode cX12_promote 38 = .ok (.iconst 0, 1) := by decide +kernel
theorem dX12_promote_39 : decode cX12_promote 39 = .ok (.istore 5, 2) := by decide +kernel
theorem dX12_promote_41 : decode cX12_promote 41 = .ok (.iload 5, 2) := by decide +kernel
theorem dX12_promote_43 : decode cX12_promote 43 = .ok (.bipush 9, 2) := by decide +kernel
theorem dX12_promote_45 : decode cX12_promote 45 = .ok (.if_icmp .ge 51, 3) := by decide +kernel
theorem dX12_promote_48 : decode cX12_promote 48 = .ok (.aload_n 0, 1) := by decide +kernel
theorem dX12_promote_49 : decode cX12_promote 49 = .ok (.getfield 9, 3) := by decide +kernel
theorem dX12_promote_52 : decode cX12_promote 52 = .ok (.iload_n 3, 1) := by decide +kernel
theorem dX12_promote_53 : decode cX12_promote 53 = .ok (.iload 5, 2) := by decide +kernel
theorem dX12_promote_55 : decode cX12_promote 55 = .ok (.iadd, 1) := by decide +kernel
theorem dX12_promote_56 : decode cX12_promote 56 = .ok (.iaload, 1) := by decide +kernel
theorem dX12_promote_57 : decode cX12_promote 57 = .ok (.istore 6, 2) := by decide +kernel
theorem dX12_promote_59 : decode cX12_promote 59 = .ok (.aload_n 0, 1) := by decide +kernel
theorem dX12_promote_60 : decode cX12_promote 60 = .ok (.getfield 9, 3) := by decide +kernel
theorem dX12_promote_63 : decode cX12_promote 63 = .ok (.iload_n 3, 1) := by decide +kernel
theorem dX12_promote_64 : decode cX12_promote 64 = .ok (.iload 5, 2) := by decide +kernel
theorem dX12_promote_66 : decode cX12_promote 66 = .ok (.iadd, 1) := by decide +kernel
theorem dX12_promote_67 : decode cX12_promote 67 = .ok (.aload_n 0, 1) := by decide +kernel
theorem dX12_promote_68 : decode cX12_promote 68 = .ok (.getfield 9, 3) := by decide +kernel
theorem dX12_promote_71 : decode cX12_promote 71 = .ok (.iload 4, 2) := by decide +kernel
theorem dX12_promote_73 : decode cX12_promote 73 = .ok (.iload 5, 2) := by decide +kernel
theorem dX12_promote_75 : decode cX12_promote 75 = .ok (.iadd, 1) := by decide +kernel
theorem dX12_promote_76 : decode cX12_promote 76 = .ok (.iaload, 1) := by decide +kernel
theorem dX12_promote_77 : decode cX12_promote 77 = .ok (.iastore, 1) := by decide +kernel
theorem dX12_promote_78 : decode cX12_promote 78 = .ok (.aload_n 0, 1) := by decide +kernel
theorem dX12_promote_79 : decode cX12_promote 79 = .ok (.getfield 9, 3) := by decide +kernel
theorem dX12_promote_82 : decode cX12_promote 82 = .ok (.iload 4, 2) := by decide +kernel
theorem dX12_promote_84 : decode cX12_promote 84 = .ok (.iload 5, 2) := by decide +kernel
theorem dX12_promote_86 : decode cX12_promote 86 = .ok (.iadd, 1) := by decide +kernel
theorem dX12_promote_87 : decode cX12_promote 87 = .ok (.iload 6, 2) := by decide +kernel
theorem dX12_promote_89 : decode cX12_promote 89 = .ok (.iastore, 1) := by decide +kernel
theorem dX12_promote_90 : decode cX12_promote 90 = .ok (.iinc 5 1, 3) := by decide +kernel
theorem dX12_promote_93 : decode cX12_promote 93 = .ok (.goto (-52), 3) := by decide +kernel
theorem dX12_promote_96 : decode cX12_promote 96 = .ok (.aload_n 0, 1) := by decide +kernel
theorem dX12_promote_97 : decode cX12_promote 97 = .ok (.getfield 9, 3) := by decide +kernel
theorem dX12_promote_100 : decode cX12_promote 100 = .ok (.iload_n 3, 1) := by decide +kernel
theorem dX12_promote_101 : decode cX12_promote 101 = .ok (.iaload, 1) := by decide +kernel
theorem dX12_promote_102 : decode cX12_promote 102 = .ok (.ireturn, 1) := by decide +kernel
set_option maxRecDepth 20000 in
theorem ggX12_removeVariant_X12_lacks : GoodIn wsX12_removeVariant wsX12_lacks := goodIn_ca (goodIn_r _ [7, 8, 9, 10, 6, 11, 2, 12, 13, 14, 15, 16, 17, 18, 19, 20, 21, 39, 40, 41, 42, 43, 44, 45, 46, 47, 48, 49, 50, 51, 52, 53, 54, 55, 56, 57, 58, 59, 60, 61, 62, 63, 64, 65] (by decide +kernel) (by decide +kernel)) (goodIn_sub (fun _ h => List.mem_cons_of_mem _ (List.mem_append_right _ h)) (by decide +kernel))
set_option maxRecDepth 20000 in
theorem gX12_removeVariant_X12_lacks : GoodIn wsX12_removeVariant (wsV RX12 175 RX12 yX12_lacks wsX12_lacks) := goodIn_app (goodIn_of _ (by decide +kernel)) ggX12_removeVariant_X12_lacks
set_option maxRecDepth 20000 in
theorem ggX12_removeVariant_X12_keep : GoodIn wsX12_removeVariant wsX12_keep := goodIn_ca (goodIn_r _ [25, 2, 26, 27, 28, 6, 29, 30, 31, 39, 40, 41, 42, 43, 44, 45, 46, 47, 48, 49, 50, 51, 52, 53, 54, 55, 56, 57, 58, 59, 60, 61, 62, 63, 64, 65] (by decide +kernel) (by decide +kernel)) (goodIn_sub (fun _ h => List.mem_cons_of_mem _ (List.mem_append_right _ h)) (by decide +kernel))
set_option maxRecDepth 20000 in
theorem gX12_removeVariant_X12_keep : GoodIn wsX12_removeVariant (wsV RX12 90 RX12 yX12_keep wsX12_keep) := goodIn_app (goodIn_of _ (by decide +kernel)) ggX12_removeVariant_X12_keep
theorem dX12_removeVariant_0 : decode cX12_removeVariant 0 = .ok (.aload_n 0, 1) := by decide +kernel
theorem dX12_removeVariant_1 : decode cX12_removeVariant 1 = .ok (.aload_n 0, 1) := by decide +kernel
theorem dX12_removeVariant_2 : decode cX12_removeVariant 2 = .ok (.iload_n 1, 1) := by decide +kernel
theorem dX12_removeVariant_3 : decode cX12_removeVariant 3 = .ok (.iload_n 2, 1) := by decide +kernel
theorem dX12_removeVariant_4 : decode cX12_removeVariant 4 = .ok (.invokevirtual 175, 3) := by decide +kernel
theorem dX12_removeVariant_7 : decode cX12_removeVariant 7 = .ok (.putfield 62, 3) := by decide +kernel
theorem dX12_removeVariant_10 : decode cX12_removeVariant 10 = .ok (.aload_n 0, 1) := by decide +kernel
theorem dX12_removeVariant_11 : decode cX12_removeVariant 11 = .ok (.getfield 62, 3) := by decide +kernel
theorem dX12_removeVariant_14 : decode cX12_removeVariant 14 = .ok (.ifCond .le 5, 3) := by decide +kernel
theorem dX12_removeVariant_17 : decode cX12_removeVariant 17 = .ok (.iconst 0, 1) := by decide +kernel
theorem dX12_removeVariant_18 : decode cX12_removeVariant 18 = .ok (.ireturn, 1) := by decide +kernel
theorem dX12_removeVariant_19 : decode cX12_removeVariant 19 = .ok (.aload_n 0, 1) := by decide +kernel
theorem dX12_removeVariant_20 : decode cX12_removeVariant 20 = .ok (.invokevirtual 90, 3) := by decide +kernel
theorem dX12_removeVariant_23 : decode cX12_removeVariant 23 = .ok (.iconst 1, 1) := by decide +kernel
theorem dX12_removeVariant_24 : decode cX12_removeVariant 24 = .ok (.iload_n 2, 1) := by decide +kernel
theorem dX12_removeVariant_25 : decode cX12_removeVariant 25 = .ok (.iadd, 1) := by decide +kernel
theorem dX12_removeVariant_26 : decode cX12_removeVariant 26 = .ok (.istore_n 3, 1) := by decide +kernel
theorem dX12_removeVariant_27 : decode cX12_removeVariant 27 = .ok (.iload_n 3, 1) := by decide +kernel
theorem dX12_removeVariant_28 : decode cX12_removeVariant 28 = .ok (.aload_n 0, 1) := by decide +kernel
theorem dX12_removeVariant_29 : decode cX12_removeVariant 29 = .ok (.iload_n 1, 1) := by decide +kernel
theorem dX12_removeVariant_30 : decode cX12_removeVariant 30 = .ok (.invokevirtual 108, 3) := by decide +kernel
theorem dX12_removeVariant_33 : decode cX12_removeVariant 33 = .ok (.iconst 1, 1) := by decide +kernel
theorem dX12_removeVariant_34 : decode cX12_removeVariant 34 = .ok (.isub, 1) := by decide +kernel
theorem dX12_removeVariant_35 : decode cX12_removeVariant 35 = .ok (.if_icmp .ge 25, 3) := by decide +kernel
theorem dX12_removeVariant_38 : decode cX12_removeVariant 38 = .ok (.aload_n 0, 1) := by decide +kernel
theorem dX12_removeVariant_39 : decode cX12_removeVariant 39 = .ok (.iload_n 1, 1) := by decide +kernel
theorem dX12_removeVariant_40 : decode cX12_removeVariant 40 = .ok (.iload_n 3, 1) := by decide +kernel
theorem dX12_removeVariant_41 : decode cX12_removeVariant 41 = .ok (.invokestatic 111, 3) := by decide +kernel
theorem dX12_removeVariant_44 : decode cX12_removeVariant 44 = .ok (.iload_n 1, 1) := by decide +kernel
theorem dX12_removeVariant_45 : decode cX12_removeVariant 45 = .ok (.iload_n 3, 1) := by decide +kernel
theorem dX12_removeVariant_46 : decode cX12_removeVariant 46 = .ok (.iconst 1, 1) := by decide +kernel
theorem dX12_removeVariant_47 : decode cX12_removeVariant 47 = .ok (.iadd, 1) := by decide +kernel
theorem dX12_removeVariant_48 : decode cX12_removeVariant 48 = .ok (.invokestatic 111, 3) := by decide +kernel
theorem dX12_removeVariant_51 : decode cX12_removeVariant 51 = .ok (.invokevirtual 152, 3) := by decide +kernel
theorem dX12_removeVariant_54 : decode cX12_removeVariant 54 = .ok (.iinc 3 1, 3) := by decide +kernel
theorem dX12_removeVariant_57 : decode cX12_removeVariant 57 = .ok (.goto (-30), 3) := by decide +kernel
theorem dX12_removeVariant_60 : decode cX12_removeVariant 60 = .ok (.aload_n 0, 1) := by decide +kernel
theorem dX12_removeVariant_61 : decode cX12_removeVariant 61 = .ok (.getfield 9, 3) := by decide +kernel
theorem dX12_removeVariant_64 : decode cX12_removeVariant 64 = .ok (.iload_n 1, 1) := by decide +kernel
theorem dX12_removeVariant_65 : decode cX12_removeVariant 65 = .ok (.invokestatic 105, 3) := by decide +kernel
theorem dX12_removeVariant_68 : decode cX12_removeVariant 68 = .ok (.iconst 1, 1) := by decide +kernel
theorem dX12_removeVariant_69 : decode cX12_removeVariant 69 = .ok (.iadd, 1) := by decide +kernel
theorem dX12_removeVariant_70 : decode cX12_removeVariant 70 = .ok (.dup2, 1) := by decide +kernel
theorem dX12_removeVariant_71 : decode cX12_removeVariant 71 = .ok (.iaload, 1) := by decide +kernel
theorem dX12_removeVariant_72 : decode cX12_removeVariant 72 = .ok (.iconst 1, 1) := by decide +kernel
theorem dX12_removeVariant_73 : decode cX12_removeVariant 73 = .ok (.isub, 1) := by decide +kernel
theorem dX12_removeVariant_74 : decode cX12_removeVariant 74 = .ok (.iastore, 1) := by decide +kernel
theorem dX12_removeVariant_75 : decode cX12_removeVariant 75 = .ok (.aload_n 0, 1) := by decide +kernel
theorem dX12_removeVariant_76 : decode cX12_removeVariant 76 = .ok (.iload_n 1, 1) := by decide +kernel
theorem dX12_removeVariant_77 : decode cX12_removeVariant 77 = .ok (.invokevirtual 108, 3) := by decide +kernel
theorem dX12_removeVariant_80 : decode cX12_removeVariant 80 = .ok (.iconst 1, 1) := by decide +kernel
theorem dX12_removeVariant_81 : decode cX12_removeVariant 81 = .ok (.isub, 1) := by decide +kernel
theorem dX12_removeVariant_82 : decode cX12_removeVariant 82 = .ok (.ireturn, 1) := by decide +kernel
set_option maxRecDepth 20000 in
theorem ggX12_remove_X12_isHead : GoodIn wsX12_remove wsX12_isHead := goodIn_ca (goodIn_r _ [6, 7, 8, 9, 5, 10, 36, 37, 38, 39, 40, 41, 42, 43, 44, 45, 46, 47, 48, 49, 50, 51, 52, 53, 54, 55, 56, 57, 58, 59, 60, 61, 62] (by decide +kernel) (by decide +kernel)) (goodIn_sub (fun _ h => List.mem_cons_of_mem _ (List.mem_append_right _ h)) (by decide +kernel))
set_option maxRecDepth 20000 in
theorem gX12_remove_X12_isHead : GoodIn wsX12_remove (wsV RX12 168 RX12 yX12_isHead wsX12_isHead) := goodIn_app (goodIn_of _ (by decide +kernel)) ggX12_remove_X12_isHead
set_option maxRecDepth 20000 in
theorem ggX12_remove_X12_keep : GoodIn wsX12_remove wsX12_keep := goodIn_ca (goodIn_r _ [14, 7, 15, 16, 17, 5, 18, 19, 20, 36, 37, 38, 39, 40, 41, 42, 43, 44, 45, 46, 47, 48, 49, 50, 51, 52, 53, 54, 55, 56, 57, 58, 59, 60, 61, 62] (by decide +kernel) (by decide +kernel)) (goodIn_sub (fun _ h => List.mem_cons_of_mem _ (List.mem_append_right _ h)) (by decide +kernel))
set_option maxRecDepth 20000 in
theorem gX12_remove_X12_keep : GoodIn wsX12_remove (wsV RX12 90 RX12 yX12_keep wsX12_keep) := goodIn_app (goodIn_of _ (by decide +kernel)) ggX12_remove_X12_keep
theorem dX12_remove_0 : decode cX12_remove 0 = .ok (.aload_n 0, 1) := by decide +kernel
theorem dX12_remove_1 : decode cX12_remove 1 = .ok (.aload_n 0, 1) := by decide +kernel
theorem dX12_remove_2 : decode cX12_remove 2 = .ok (.iload_n 1, 1) := by decide +kernel
theorem dX12_remove_3 : decode cX12_remove 3 = .ok (.invokevirtual 168, 3) := by decide +kernel
theorem dX12_remove_6 : decode cX12_remove 6 = .ok (.ifCond .eq 7, 3) := by decide +kernel
theorem dX12_remove_9 : decode cX12_remove 9 = .ok (.iconst 0, 1) := by decide +kernel
theorem dX12_remove_10 : decode cX12_remove 10 = .ok (.goto 4, 3) := by decide +kernel
theorem dX12_remove_13 : decode cX12_remove 13 = .ok (.iconst 1, 1) := by decide +kernel
theorem dX12_remove_14 : decode cX12_remove 14 = .ok (.putfield 62, 3) := by decide +kernel
theorem dX12_remove_17 : decode cX12_remove 17 = .ok (.aload_n 0, 1) := by decide +kernel
theorem dX12_remove_18 : decode cX12_remove 18 = .ok (.getfield 62, 3) := by decide +kernel
theorem dX12_remove_21 : decode cX12_remove 21 = .ok (.ifCond .le 5, 3) := by decide +kernel
theorem dX12_remove_24 : decode cX12_remove 24 = .ok (.iconst 0, 1) := by decide +kernel
theorem dX12_remove_25 : decode cX12_remove 25 = .ok (.ireturn, 1) := by decide +kernel
theorem dX12_remove_26 : decode cX12_remove 26 = .ok (.aload_n 0, 1) := by decide +kernel
theorem dX12_remove_27 : decode cX12_remove 27 = .ok (.invokevirtual 90, 3) := by decide +kernel
theorem dX12_remove_30 : decode cX12_remove 30 = .ok (.aload_n 0, 1) := by decide +kernel
theorem dX12_remove_31 : decode cX12_remove 31 = .ok (.iload_n 1, 1) := by decide +kernel
theorem dX12_remove_32 : decode cX12_remove 32 = .ok (.invokevirtual 178, 3) := by decide +kernel
theorem dX12_remove_35 : decode cX12_remove 35 = .ok (.aload_n 0, 1) := by decide +kernel
theorem dX12_remove_36 : decode cX12_remove 36 = .ok (.iload_n 1, 1) := by decide +kernel
theorem dX12_remove_37 : decode cX12_remove 37 = .ok (.invokevirtual 139, 3) := by decide +kernel
theorem dX12_remove_40 : decode cX12_remove 40 = .ok (.ifCond .lt 7, 3) := by decide +kernel
theorem dX12_remove_43 : decode cX12_remove 43 = .ok (.iconst 1, 1) := by decide +kernel
theorem dX12_remove_44 : decode cX12_remove 44 = .ok (.goto 4, 3) := by decide +kernel
theorem dX12_remove_47 : decode cX12_remove 47 = .ok (.iconst 0, 1) := by decide +kernel
theorem dX12_remove_48 : decode cX12_remove 48 = .ok (.iadd, 1) := by decide +kernel
theorem dX12_remove_49 : decode cX12_remove 49 = .ok (.istore_n 2, 1) := by decide +kernel
theorem dX12_remove_50 : decode cX12_remove 50 = .ok (.aload_n 0, 1) := by decide +kernel
theorem dX12_remove_51 : decode cX12_remove 51 = .ok (.iload_n 1, 1) := by decide +kernel
theorem dX12_remove_52 : decode cX12_remove 52 = .ok (.invokevirtual 155, 3) := by decide +kernel
theorem dX12_remove_55 : decode cX12_remove 55 = .ok (.iload_n 2, 1) := by decide +kernel
theorem dX12_remove_56 : decode cX12_remove 56 = .ok (.ireturn, 1) := by decide +kernel
set_option maxRecDepth 20000 in
theorem ggX12_join_X12_isHead : GoodIn wsX12_join wsX12_isHead := goodIn_ca (goodIn_r _ [6, 7, 8, 9, 5, 10, 71, 72, 73, 74, 75, 76, 77, 78, 79, 80, 81, 82, 83, 84, 85, 86, 87, 88, 89, 90, 91, 92, 93, 94, 95, 96, 97] (by decide +kernel) (by decide +kernel)) (goodIn_sub (fun _ h => List.mem_cons_of_mem _ (List.mem_append_right _ h)) (by decide +kernel))
set_option maxRecDepth 20000 in
theorem gX12_join_X12_isHead : GoodIn wsX12_join (wsV RX12 168 RX12 yX12_isHead wsX12_isHead) := goodIn_app (goodIn_of _ (by decide +kernel)) ggX12_join_X12_isHead
set_option maxRecDepth 20000 in
theorem ggX12_join_X12_layAhead : GoodIn wsX12_join wsX12_layAhead := goodIn_ca (goodIn_r _ [14, 15, 7, 71, 72, 73, 74, 75, 76, 77, 78, 79, 80, 81, 82, 83, 84, 85, 86, 87, 88, 89, 90, 91, 92, 93, 94, 95, 96, 97] (by decide +kernel) (by decide +kernel)) (goodIn_sub (fun _ h => List.mem_cons_of_mem _ (List.mem_append_right _ h)) (by decide +kernel))
set_option maxRecDepth 20000 in
theorem gX12_join_X12_layAhead : GoodIn wsX12_join (wsV RX12 159 RX12 yX12_layAhead wsX12_layAhead) := goodIn_app (goodIn_of _ (by decide +kernel)) ggX12_join_X12_layAhead
set_option maxRecDepth 20000 in
theorem ggX12_join_X12_done : GoodIn wsX12_join wsX12_done := goodIn_ca (goodIn_r _ [60, 1, 15, 61, 62, 63, 5, 64, 65, 66, 67, 68, 69, 70, 71, 72, 73, 74, 75, 76, 77, 78, 79, 80, 81, 82, 83, 84, 85, 86, 87, 88, 89, 90, 91, 92, 93, 94, 95, 96, 97] (by decide +kernel) (by decide +kernel)) (goodIn_sub (fun _ h => List.mem_cons_of_mem _ (List.mem_append_right _ h)) (by decide +kernel))
set_option maxRecDepth 20000 in
theorem gX12_join_X12_done : GoodIn wsX12_join (wsV RX12 165 RX12 yX12_done wsX12_done) := goodIn_app (goodIn_of _ (by decide +kernel)) ggX12_join_X12_done
theorem dX12_join_0 : decode cX12_join 0 = .ok (.aload_n 0, 1) := by decide +kernel
theorem dX12_join_1 : decode cX12_join 1 = .ok (.aload_n 0, 1) := by decide +kernel
theorem dX12_join_2 : decode cX12_join 2 = .ok (.iload_n 1, 1) := by decide +kernel
theorem dX12_join_3 : decode cX12_join 3 = .ok (.invokevirtual 168, 3) := by decide +kernel
theorem dX12_join_6 : decode cX12_join 6 = .ok (.ifCond .eq 15, 3) := by decide +kernel
theorem dX12_join_9 : decode cX12_join 9 = .ok (.aload_n 0, 1) := by decide +kernel
theorem dX12_join_10 : decode cX12_join 10 = .ok (.iload_n 2, 1) := by decide +kernel
theorem dX12_join_11 : decode cX12_join 11 = .ok (.invokevirtual 168, 3) := by decide +kernel
theorem dX12_join_14 : decode cX12_join 14 = .ok (.ifCond .eq 7, 3) := by decide +kernel
theorem dX12_join_17 : decode cX12_join 17 = .ok (.iconst 0, 1) := by decide +kernel
theorem dX12_join_18 : decode cX12_join 18 = .ok (.goto 4, 3) := by decide +kernel
theorem dX12_join_21 : decode cX12_join 21 = .ok (.iconst 1, 1) := by decide +kernel
theorem dX12_join_22 : decode cX12_join 22 = .ok (.putfield 62, 3) := by decide +kernel
theorem dX12_join_25 : decode cX12_join 25 = .ok (.aload_n 0, 1) := by decide +kernel
theorem dX12_join_26 : decode cX12_join 26 = .ok (.getfield 62, 3) := by decide +kernel
theorem dX12_join_29 : decode cX12_join 29 = .ok (.ifCond .le 5, 3) := by decide +kernel
theorem dX12_join_32 : decode cX12_join 32 = .ok (.iconst 0, 1) := by decide +kernel
theorem dX12_join_33 : decode cX12_join 33 = .ok (.ireturn, 1) := by decide +kernel
theorem dX12_join_34 : decode cX12_join 34 = .ok (.aload_n 0, 1) := by decide +kernel
theorem dX12_join_35 : decode cX12_join 35 = .ok (.invokevirtual 159, 3) := by decide +kernel
theorem dX12_join_38 : decode cX12_join 38 = .ok (.aload_n 0, 1) := by decide +kernel
theorem dX12_join_39 : decode cX12_join 39 = .ok (.iconst 2, 1) := by decide +kernel
theorem dX12_join_40 : decode cX12_join 40 = .ok (.putfield 62, 3) := by decide +kernel
theorem dX12_join_43 : decode cX12_join 43 = .ok (.aload_n 0, 1) := by decide +kernel
theorem dX12_join_44 : decode cX12_join 44 = .ok (.aload_n 0, 1) := by decide +kernel
theorem dX12_join_45 : decode cX12_join 45 = .ok (.iload_n 1, 1) := by decide +kernel
theorem dX12_join_46 : decode cX12_join 46 = .ok (.iload_n 2, 1) := by decide +kernel
theorem dX12_join_47 : decode cX12_join 47 = .ok (.invokevirtual 181, 3) := by decide +kernel
theorem dX12_join_50 : decode cX12_join 50 = .ok (.invokevirtual 165, 3) := by decide +kernel
theorem dX12_join_53 : decode cX12_join 53 = .ok (.ireturn, 1) := by decide +kernel
set_option maxRecDepth 20000 in
theorem ggX12_find_X12_readForm : GoodIn wsX12_find wsX12_readForm := goodIn_ca (goodIn_r _ [7, 8, 9, 10, 11, 12, 13, 14, 15, 6, 16, 17, 18, 19, 20, 21, 22, 23, 24, 46, 47, 48, 49, 50, 51, 52, 53, 54, 55, 56, 57, 58, 59, 60, 61, 62, 63, 64, 65, 66, 67, 68, 69, 70, 71, 72] (by decide +kernel) (by decide +kernel)) (goodIn_sub (fun _ h => List.mem_cons_of_mem _ (List.mem_append_right _ h)) (by decide +kernel))
set_option maxRecDepth 20000 in
theorem gX12_find_X12_readForm : GoodIn wsX12_find (wsV RX12 121 RX12 yX12_readForm wsX12_readForm) := goodIn_app (goodIn_of _ (by decide +kernel)) ggX12_find_X12_readForm
set_option maxRecDepth 20000 in
theorem ggX12_find_X12_refuse : GoodIn wsX12_find wsX12_refuse := goodIn_r _ [45, 1, 46, 47, 48, 49, 50, 51, 52, 53, 54, 55, 56, 57, 58, 59, 60, 61, 62, 63, 64, 65, 66, 67, 68, 69, 70, 71, 72] (by decide +kernel) (by decide +kernel)
set_option maxRecDepth 20000 in
theorem gX12_find_X12_refuse : GoodIn wsX12_find (wsV RX12 79 RX12 yX12_refuse wsX12_refuse) := goodIn_app (goodIn_of _ (by decide +kernel)) ggX12_find_X12_refuse
theorem dX12_find_0 : decode cX12_find 0 = .ok (.aload_n 0, 1) := by decide +kernel
theorem dX12_find_1 : decode cX12_find 1 = .ok (.iconst 0, 1) := by decide +kernel
theorem dX12_find_2 : decode cX12_find 2 = .ok (.putfield 62, 3) := by decide +kernel
theorem dX12_find_5 : decode cX12_find 5 = .ok (.aload_n 0, 1) := by decide +kernel
theorem dX12_find_6 : decode cX12_find 6 = .ok (.iconst 0, 1) := by decide +kernel
theorem dX12_find_7 : decode cX12_find 7 = .ok (.aload_n 0, 1) := by decide +kernel
theorem dX12_find_8 : decode cX12_find 8 = .ok (.getfield 76, 3) := by decide +kernel
theorem dX12_find_11 : decode cX12_find 11 = .ok (.invokevirtual 121, 3) := by decide +kernel
theorem dX12_find_14 : decode cX12_find 14 = .ok (.istore_n 1, 1) := by decide +kernel
theorem dX12_find_15 : decode cX12_find 15 = .ok (.aload_n 0, 1) := by decide +kernel
theorem dX12_find_16 : decode cX12_find 16 = .ok (.iconst 0, 1) := by decide +kernel
theorem dX12_find_17 : decode cX12_find 17 = .ok (.putfield 76, 3) := by decide +kernel
theorem dX12_find_20 : decode cX12_find 20 = .ok (.iload_n 1, 1) := by decide +kernel
theorem dX12_find_21 : decode cX12_find 21 = .ok (.ifCond .lt 7, 3) := by decide +kernel
theorem dX12_find_24 : decode cX12_find 24 = .ok (.iconst (-1), 1) := by decide +kernel
theorem dX12_find_25 : decode cX12_find 25 = .ok (.goto 7, 3) := by decide +kernel
theorem dX12_find_28 : decode cX12_find 28 = .ok (.aload_n 0, 1) := by decide +kernel
theorem dX12_find_29 : decode cX12_find 29 = .ok (.invokevirtual 128, 3) := by decide +kernel
theorem dX12_find_32 : decode cX12_find 32 = .ok (.istore_n 2, 1) := by decide +kernel
theorem dX12_find_33 : decode cX12_find 33 = .ok (.iload_n 2, 1) := by decide +kernel
theorem dX12_find_34 : decode cX12_find 34 = .ok (.ifCond .lt 7, 3) := by decide +kernel
theorem dX12_find_37 : decode cX12_find 37 = .ok (.iload_n 2, 1) := by decide +kernel
theorem dX12_find_38 : decode cX12_find 38 = .ok (.goto 8, 3) := by decide +kernel
theorem dX12_find_41 : decode cX12_find 41 = .ok (.aload_n 0, 1) := by decide +kernel
theorem dX12_find_42 : decode cX12_find 42 = .ok (.iconst 1, 1) := by decide +kernel
theorem dX12_find_43 : decode cX12_find 43 = .ok (.invokevirtual 79, 3) := by decide +kernel
theorem dX12_find_46 : decode cX12_find 46 = .ok (.ireturn, 1) := by decide +kernel
set_option maxRecDepth 20000 in
theorem ggX12_headword_X12_isHead : GoodIn wsX12_headword wsX12_isHead := goodIn_ca (goodIn_r _ [7, 2, 8, 9, 6, 10, 77, 78, 79, 80, 81, 82, 83, 84, 85, 86, 87, 88, 89, 90, 91, 92, 93, 94, 95, 96, 97, 98, 99, 100, 101, 102, 103] (by decide +kernel) (by decide +kernel)) (goodIn_sub (fun _ h => List.mem_cons_of_mem _ (List.mem_append_right _ h)) (by decide +kernel))
set_option maxRecDepth 20000 in
theorem gX12_headword_X12_isHead : GoodIn wsX12_headword (wsV RX12 168 RX12 yX12_isHead wsX12_isHead) := goodIn_app (goodIn_of _ (by decide +kernel)) ggX12_headword_X12_isHead
set_option maxRecDepth 20000 in
theorem ggX12_headword_X12_in : GoodIn wsX12_headword wsX12_in := goodIn_r _ [10] (by decide +kernel) (by decide +kernel)
set_option maxRecDepth 20000 in
theorem gX12_headword_X12_in : GoodIn wsX12_headword (va_wsS RX12 72 yX12_in wsX12_in) := goodIn_app (goodIn_of _ (by decide +kernel)) ggX12_headword_X12_in
theorem dX12_headword_0 : decode cX12_headword 0 = .ok (.aload_n 0, 1) := by decide +kernel
theorem dX12_headword_1 : decode cX12_headword 1 = .ok (.aload_n 0, 1) := by decide +kernel
theorem dX12_headword_2 : decode cX12_headword 2 = .ok (.iload_n 1, 1) := by decide +kernel
theorem dX12_headword_3 : decode cX12_headword 3 = .ok (.invokevirtual 168, 3) := by decide +kernel
theorem dX12_headword_6 : decode cX12_headword 6 = .ok (.ifCond .ne 7, 3) := by decide +kernel
theorem dX12_headword_9 : decode cX12_headword 9 = .ok (.iconst 1, 1) := by decide +kernel
theorem dX12_headword_10 : decode cX12_headword 10 = .ok (.goto 18, 3) := by decide +kernel
theorem dX12_headword_13 : decode cX12_headword 13 = .ok (.iload_n 2, 1) := by decide +kernel
theorem dX12_headword_14 : decode cX12_headword 14 = .ok (.iconst 0, 1) := by decide +kernel
theorem dX12_headword_15 : decode cX12_headword 15 = .ok (.bipush 6, 2) := by decide +kernel
theorem dX12_headword_17 : decode cX12_headword 17 = .ok (.invokestatic 72, 3) := by decide +kernel
theorem dX12_headword_20 : decode cX12_headword 20 = .ok (.ifCond .ne 7, 3) := by decide +kernel
theorem dX12_headword_23 : decode cX12_headword 23 = .ok (.iconst 2, 1) := by decide +kernel
theorem dX12_headword_24 : decode cX12_headword 24 = .ok (.goto 4, 3) := by decide +kernel
theorem dX12_headword_27 : decode cX12_headword 27 = .ok (.iconst 0, 1) := by decide +kernel
theorem dX12_headword_28 : decode cX12_headword 28 = .ok (.putfield 62, 3) := by decide +kernel
theorem dX12_headword_31 : decode cX12_headword 31 = .ok (.aload_n 0, 1) := by decide +kernel
theorem dX12_headword_32 : decode cX12_headword 32 = .ok (.getfield 62, 3) := by decide +kernel
theorem dX12_headword_35 : decode cX12_headword 35 = .ok (.ifCond .le 5, 3) := by decide +kernel
theorem dX12_headword_38 : decode cX12_headword 38 = .ok (.iconst 0, 1) := by decide +kernel
theorem dX12_headword_39 : decode cX12_headword 39 = .ok (.ireturn, 1) := by decide +kernel
theorem dX12_headword_40 : decode cX12_headword 40 = .ok (.iload_n 2, 1) := by decide +kernel
theorem dX12_headword_41 : decode cX12_headword 41 = .ok (.tableswitch 77 0 5 #[39, 47, 53, 59, 65, 71], 39) := by decide +kernel
theorem dX12_headword_80 : decode cX12_headword 80 = .ok (.aload_n 0, 1) := by decide +kernel
theorem dX12_headword_81 : decode cX12_headword 81 = .ok (.iload_n 1, 1) := by decide +kernel
theorem dX12_headword_82 : decode cX12_headword 82 = .ok (.invokevirtual 108, 3) := by decide +kernel
theorem dX12_headword_85 : decode cX12_headword 85 = .ok (.iconst 1, 1) := by decide +kernel
theorem dX12_headword_86 : decode cX12_headword 86 = .ok (.isub, 1) := by decide +kernel
theorem dX12_headword_87 : decode cX12_headword 87 = .ok (.ireturn, 1) := by decide +kernel
theorem dX12_headword_88 : decode cX12_headword 88 = .ok (.aload_n 0, 1) := by decide +kernel
theorem dX12_headword_89 : decode cX12_headword 89 = .ok (.iload_n 1, 1) := by decide +kernel
theorem dX12_headword_90 : decode cX12_headword 90 = .ok (.invokevirtual 139, 3) := by decide +kernel
theorem dX12_headword_93 : decode cX12_headword 93 = .ok (.ireturn, 1) := by decide +kernel
theorem dX12_headword_94 : decode cX12_headword 94 = .ok (.aload_n 0, 1) := by decide +kernel
theorem dX12_headword_95 : decode cX12_headword 95 = .ok (.iload_n 1, 1) := by decide +kernel
theorem dX12_headword_96 : decode cX12_headword 96 = .ok (.invokevirtual 146, 3) := by decide +kernel
theorem dX12_headword_99 : decode cX12_headword 99 = .ok (.ireturn, 1) := by decide +kernel
theorem dX12_headword_100 : decode cX12_headword 100 = .ok (.aload_n 0, 1) := by decide +kernel
theorem dX12_headword_101 : decode cX12_headword 101 = .ok (.iload_n 1, 1) := by decide +kernel
theorem dX12_headword_102 : decode cX12_headword 102 = .ok (.invokevirtual 178, 3) := by decide +kernel
theorem dX12_headword_105 : decode cX12_headword 105 = .ok (.ireturn, 1) := by decide +kernel
theorem dX12_headword_106 : decode cX12_headword 106 = .ok (.aload_n 0, 1) := by decide +kernel
theorem dX12_headword_107 : decode cX12_headword 107 = .ok (.iload_n 1, 1) := by decide +kernel
theorem dX12_headword_108 : decode cX12_headword 108 = .ok (.invokevirtual 188, 3) := by decide +kernel
theorem dX12_headword_111 : decode cX12_headword 111 = .ok (.ireturn, 1) := by decide +kernel
theorem dX12_headword_112 : decode cX12_headword 112 = .ok (.aload_n 0, 1) := by decide +kernel
theorem dX12_headword_113 : decode cX12_headword 113 = .ok (.iload_n 1, 1) := by decide +kernel
theorem dX12_headword_114 : decode cX12_headword 114 = .ok (.invokevirtual 191, 3) := by decide +kernel
theorem dX12_headword_117 : decode cX12_headword 117 = .ok (.ireturn, 1) := by decide +kernel
theorem dX12_headword_118 : decode cX12_headword 118 = .ok (.aload_n 0, 1) := by decide +kernel
theorem dX12_headword_119 : decode cX12_headword 119 = .ok (.getfield 9, 3) := by decide +kernel
theorem dX12_headword_122 : decode cX12_headword 122 = .ok (.iload_n 1, 1) := by decide +kernel
theorem dX12_headword_123 : decode cX12_headword 123 = .ok (.iconst 0, 1) := by decide +kernel
theorem dX12_headword_124 : decode cX12_headword 124 = .ok (.invokestatic 111, 3) := by decide +kernel
theorem dX12_headword_127 : decode cX12_headword 127 = .ok (.iaload, 1) := by decide +kernel
theorem dX12_headword_128 : decode cX12_headword 128 = .ok (.ireturn, 1) := by decide +kernel
set_option maxRecDepth 20000 in
theorem ggX12_letterOf_X12_isHead : GoodIn wsX12_letterOf wsX12_isHead := goodIn_ca (goodIn_r _ [7, 1, 8, 9, 6, 10, 29, 30, 31, 32, 33, 34, 35, 36, 37, 38, 39, 40, 41, 42, 43, 44, 45, 46, 47, 48, 49, 50, 51, 52, 53, 54, 55] (by decide +kernel) (by decide +kernel)) (goodIn_sub (fun _ h => List.mem_cons_of_mem _ (List.mem_append_right _ h)) (by decide +kernel))
set_option maxRecDepth 20000 in
theorem gX12_letterOf_X12_isHead : GoodIn wsX12_letterOf (wsV RX12 168 RX12 yX12_isHead wsX12_isHead) := goodIn_app (goodIn_of _ (by decide +kernel)) ggX12_letterOf_X12_isHead
set_option maxRecDepth 20000 in
theorem ggX12_letterOf_X12_in : GoodIn wsX12_letterOf wsX12_in := goodIn_r _ [10] (by decide +kernel) (by decide +kernel)
set_option maxRecDepth 20000 in
theorem gX12_letterOf_X12_in : GoodIn wsX12_letterOf (va_wsS RX12 72 yX12_in wsX12_in) := goodIn_app (goodIn_of _ (by decide +kernel)) ggX12_letterOf_X12_in
set_option maxRecDepth 20000 in
theorem ggX12_letterOf_X12_placeOf : GoodIn wsX12_letterOf wsX12_placeOf := goodIn_ca (goodIn_r _ [28, 1, 29, 30, 31, 32, 33, 34, 35, 36, 37, 38, 39, 40, 41, 42, 43, 44, 45, 46, 47, 48, 49, 50, 51, 52, 53, 54, 55] (by decide +kernel) (by decide +kernel)) (goodIn_sub (fun _ h => List.mem_cons_of_mem _ (List.mem_append_right _ h)) (by decide +kernel))
set_option maxRecDepth 20000 in
theorem gX12_letterOf_X12_placeOf : GoodIn wsX12_letterOf (wsV RX12 87 RX12 yX12_placeOf wsX12_placeOf) := goodIn_app (goodIn_of _ (by decide +kernel)) ggX12_letterOf_X12_placeOf
theorem dX12_letterOf_0 : decode cX12_letterOf 0 = .ok (.aload_n 0, 1) := by decide +kernel
theorem dX12_letterOf_1 : decode cX12_letterOf 1 = .ok (.aload_n 0, 1) := by decide +kernel
theorem dX12_letterOf_2 : decode cX12_letterOf 2 = .ok (.iload_n 1, 1) := by decide +kernel
theorem dX12_letterOf_3 : decode cX12_letterOf 3 = .ok (.invokevirtual 168, 3) := by decide +kernel
theorem dX12_letterOf_6 : decode cX12_letterOf 6 = .ok (.ifCond .ne 7, 3) := by decide +kernel
theorem dX12_letterOf_9 : decode cX12_letterOf 9 = .ok (.iconst 1, 1) := by decide +kernel
theorem dX12_letterOf_10 : decode cX12_letterOf 10 = .ok (.goto 39, 3) := by decide +kernel
theorem dX12_letterOf_13 : decode cX12_letterOf 13 = .ok (.aload_n 0, 1) := by decide +kernel
theorem dX12_letterOf_14 : decode cX12_letterOf 14 = .ok (.iload_n 1, 1) := by decide +kernel
theorem dX12_letterOf_15 : decode cX12_letterOf 15 = .ok (.iload_n 2, 1) := by decide +kernel
theorem dX12_letterOf_16 : decode cX12_letterOf 16 = .ok (.invokevirtual 194, 3) := by decide +kernel
theorem dX12_letterOf_19 : decode cX12_letterOf 19 = .ok (.ifCond .eq 25, 3) := by decide +kernel
theorem dX12_letterOf_22 : decode cX12_letterOf 22 = .ok (.iload_n 3, 1) := by decide +kernel
theorem dX12_letterOf_23 : decode cX12_letterOf 23 = .ok (.iconst 0, 1) := by decide +kernel
theorem dX12_letterOf_24 : decode cX12_letterOf 24 = .ok (.aload_n 0, 1) := by decide +kernel
theorem dX12_letterOf_25 : decode cX12_letterOf 25 = .ok (.getfield 9, 3) := by decide +kernel
theorem dX12_letterOf_28 : decode cX12_letterOf 28 = .ok (.iload_n 1, 1) := by decide +kernel
theorem dX12_letterOf_29 : decode cX12_letterOf 29 = .ok (.iconst 1, 1) := by decide +kernel
theorem dX12_letterOf_30 : decode cX12_letterOf 30 = .ok (.iload_n 2, 1) := by decide +kernel
theorem dX12_letterOf_31 : decode cX12_letterOf 31 = .ok (.iadd, 1) := by decide +kernel
theorem dX12_letterOf_32 : decode cX12_letterOf 32 = .ok (.invokestatic 111, 3) := by decide +kernel
theorem dX12_letterOf_35 : decode cX12_letterOf 35 = .ok (.iaload, 1) := by decide +kernel
theorem dX12_letterOf_36 : decode cX12_letterOf 36 = .ok (.iconst 1, 1) := by decide +kernel
theorem dX12_letterOf_37 : decode cX12_letterOf 37 = .ok (.isub, 1) := by decide +kernel
theorem dX12_letterOf_38 : decode cX12_letterOf 38 = .ok (.invokestatic 72, 3) := by decide +kernel
theorem dX12_letterOf_41 : decode cX12_letterOf 41 = .ok (.ifCond .ne 7, 3) := by decide +kernel
theorem dX12_letterOf_44 : decode cX12_letterOf 44 = .ok (.iconst 2, 1) := by decide +kernel
theorem dX12_letterOf_45 : decode cX12_letterOf 45 = .ok (.goto 4, 3) := by decide +kernel
theorem dX12_letterOf_48 : decode cX12_letterOf 48 = .ok (.iconst 0, 1) := by decide +kernel
theorem dX12_letterOf_49 : decode cX12_letterOf 49 = .ok (.putfield 62, 3) := by decide +kernel
theorem dX12_letterOf_52 : decode cX12_letterOf 52 = .ok (.aload_n 0, 1) := by decide +kernel
theorem dX12_letterOf_53 : decode cX12_letterOf 53 = .ok (.getfield 62, 3) := by decide +kernel
theorem dX12_letterOf_56 : decode cX12_letterOf 56 = .ok (.ifCond .le 7, 3) := by decide +kernel
theorem dX12_letterOf_59 : decode cX12_letterOf 59 = .ok (.iconst 0, 1) := by decide +kernel
theorem dX12_letterOf_60 : decode cX12_letterOf 60 = .ok (.goto 23, 3) := by decide +kernel
theorem dX12_letterOf_63 : decode cX12_letterOf 63 = .ok (.aload_n 0, 1) := by decide +kernel
theorem dX12_letterOf_64 : decode cX12_letterOf 64 = .ok (.aload_n 0, 1) := by decide +kernel
theorem dX12_letterOf_65 : decode cX12_letterOf 65 = .ok (.getfield 9, 3) := by decide +kernel
theorem dX12_letterOf_68 : decode cX12_letterOf 68 = .ok (.iload_n 1, 1) := by decide +kernel
theorem dX12_letterOf_69 : decode cX12_letterOf 69 = .ok (.iconst 1, 1) := by decide +kernel
theorem dX12_letterOf_70 : decode cX12_letterOf 70 = .ok (.iload_n 2, 1) := by decide +kernel
theorem dX12_letterOf_71 : decode cX12_letterOf 71 = .ok (.iadd, 1) := by decide +kernel
theorem dX12_letterOf_72 : decode cX12_letterOf 72 = .ok (.invokestatic 111, 3) := by decide +kernel
theorem dX12_letterOf_75 : decode cX12_letterOf 75 = .ok (.iconst 1, 1) := by decide +kernel
theorem dX12_letterOf_76 : decode cX12_letterOf 76 = .ok (.iadd, 1) := by decide +kernel
theorem dX12_letterOf_77 : decode cX12_letterOf 77 = .ok (.iload_n 3, 1) := by decide +kernel
theorem dX12_letterOf_78 : decode cX12_letterOf 78 = .ok (.iadd, 1) := by decide +kernel
theorem dX12_letterOf_79 : decode cX12_letterOf 79 = .ok (.iaload, 1) := by decide +kernel
theorem dX12_letterOf_80 : decode cX12_letterOf 80 = .ok (.invokevirtual 87, 3) := by decide +kernel
theorem dX12_letterOf_83 : decode cX12_letterOf 83 = .ok (.ireturn, 1) := by decide +kernel
set_option maxRecDepth 20000 in
theorem ggX12_ordered_X12_refuse : GoodIn wsX12_ordered wsX12_refuse := goodIn_r _ [22, 1, 23, 24, 25, 26, 27, 28, 29, 30, 31, 32, 33, 34, 35, 36, 37, 38, 39, 40, 41, 42, 43, 44, 45, 46, 47, 48, 49] (by decide +kernel) (by decide +kernel)
set_option maxRecDepth 20000 in
theorem gX12_ordered_X12_refuse : GoodIn wsX12_ordered (wsV RX12 79 RX12 yX12_refuse wsX12_refuse) := goodIn_app (goodIn_of _ (by decide +kernel)) ggX12_ordered_X12_refuse
theorem dX12_ordered_0 : decode cX12_ordered 0 = .ok (.aload_n 0, 1) := by decide +kernel
theorem dX12_ordered_1 : decode cX12_ordered 1 = .ok (.iconst 0, 1) := by decide +kernel
theorem dX12_ordered_2 : decode cX12_ordered 2 = .ok (.putfield 62, 3) := by decide +kernel
theorem dX12_ordered_5 : decode cX12_ordered 5 = .ok (.iconst 0, 1) := by decide +kernel
theorem dX12_ordered_6 : decode cX12_ordered 6 = .ok (.istore_n 2, 1) := by decide +kernel
theorem dX12_ordered_7 : decode cX12_ordered 7 = .ok (.iload_n 2, 1) := by decide +kernel
theorem dX12_ordered_8 : decode cX12_ordered 8 = .ok (.aload_n 0, 1) := by decide +kernel
theorem dX12_ordered_9 : decode cX12_ordered 9 = .ok (.getfield 9, 3) := by decide +kernel
theorem dX12_ordered_12 : decode cX12_ordered 12 = .ok (.bipush 37, 2) := by decide +kernel
theorem dX12_ordered_14 : decode cX12_ordered 14 = .ok (.iaload, 1) := by decide +kernel
theorem dX12_ordered_15 : decode cX12_ordered 15 = .ok (.if_icmp .ge 20, 3) := by decide +kernel
theorem dX12_ordered_18 : decode cX12_ordered 18 = .ok (.aload_n 0, 1) := by decide +kernel
theorem dX12_ordered_19 : decode cX12_ordered 19 = .ok (.iload_n 2, 1) := by decide +kernel
theorem dX12_ordered_20 : decode cX12_ordered 20 = .ok (.invokevirtual 188, 3) := by decide +kernel
theorem dX12_ordered_23 : decode cX12_ordered 23 = .ok (.iload_n 1, 1) := by decide +kernel
theorem dX12_ordered_24 : decode cX12_ordered 24 = .ok (.if_icmp .ne 5, 3) := by decide +kernel
theorem dX12_ordered_27 : decode cX12_ordered 27 = .ok (.iload_n 2, 1) := by decide +kernel
theorem dX12_ordered_28 : decode cX12_ordered 28 = .ok (.ireturn, 1) := by decide +kernel
theorem dX12_ordered_29 : decode cX12_ordered 29 = .ok (.iinc 2 1, 3) := by decide +kernel
theorem dX12_ordered_32 : decode cX12_ordered 32 = .ok (.goto (-25), 3) := by decide +kernel
theorem dX12_ordered_35 : decode cX12_ordered 35 = .ok (.aload_n 0, 1) := by decide +kernel
theorem dX12_ordered_36 : decode cX12_ordered 36 = .ok (.iconst 1, 1) := by decide +kernel
theorem dX12_ordered_37 : decode cX12_ordered 37 = .ok (.invokevirtual 79, 3) := by decide +kernel
theorem dX12_ordered_40 : decode cX12_ordered 40 = .ok (.ireturn, 1) := by decide +kernel
set_option maxRecDepth 20000 in
theorem ggX12_lacksEither_X12_isHead : GoodIn wsX12_lacksEither wsX12_isHead := goodIn_ca (goodIn_r _ [5, 6, 7, 8, 4, 9, 21, 22, 23, 24, 25, 26, 27, 28, 29, 30, 31, 32, 33, 34, 35, 36, 37, 38, 39, 40, 41, 42, 43, 44, 45, 46, 47] (by decide +kernel) (by decide +kernel)) (goodIn_sub (fun _ h => List.mem_cons_of_mem _ (List.mem_append_right _ h)) (by decide +kernel))
set_option maxRecDepth 20000 in
theorem gX12_lacksEither_X12_isHead : GoodIn wsX12_lacksEither (wsV RX12 168 RX12 yX12_isHead wsX12_isHead) := goodIn_app (goodIn_of _ (by decide +kernel)) ggX12_lacksEither_X12_isHead
theorem dX12_lacksEither_0 : decode cX12_lacksEither 0 = .ok (.aload_n 0, 1) := by decide +kernel
theorem dX12_lacksEither_1 : decode cX12_lacksEither 1 = .ok (.iload_n 1, 1) := by decide +kernel
theorem dX12_lacksEither_2 : decode cX12_lacksEither 2 = .ok (.invokevirtual 168, 3) := by decide +kernel
theorem dX12_lacksEither_5 : decode cX12_lacksEither 5 = .ok (.ifCond .eq 11, 3) := by decide +kernel
theorem dX12_lacksEither_8 : decode cX12_lacksEither 8 = .ok (.aload_n 0, 1) := by decide +kernel
theorem dX12_lacksEither_9 : decode cX12_lacksEither 9 = .ok (.iload_n 3, 1) := by decide +kernel
theorem dX12_lacksEither_10 : decode cX12_lacksEither 10 = .ok (.invokevirtual 168, 3) := by decide +kernel
theorem dX12_lacksEither_13 : decode cX12_lacksEither 13 = .ok (.ifCond .ne 7, 3) := by decide +kernel
theorem dX12_lacksEither_16 : decode cX12_lacksEither 16 = .ok (.iconst 1, 1) := by decide +kernel
theorem dX12_lacksEither_17 : decode cX12_lacksEither 17 = .ok (.goto 27, 3) := by decide +kernel
theorem dX12_lacksEither_20 : decode cX12_lacksEither 20 = .ok (.aload_n 0, 1) := by decide +kernel
theorem dX12_lacksEither_21 : decode cX12_lacksEither 21 = .ok (.iload_n 1, 1) := by decide +kernel
theorem dX12_lacksEither_22 : decode cX12_lacksEither 22 = .ok (.iload_n 2, 1) := by decide +kernel
theorem dX12_lacksEither_23 : decode cX12_lacksEither 23 = .ok (.invokevirtual 194, 3) := by decide +kernel
theorem dX12_lacksEither_26 : decode cX12_lacksEither 26 = .ok (.ifCond .eq 13, 3) := by decide +kernel
theorem dX12_lacksEither_29 : decode cX12_lacksEither 29 = .ok (.aload_n 0, 1) := by decide +kernel
theorem dX12_lacksEither_30 : decode cX12_lacksEither 30 = .ok (.iload_n 3, 1) := by decide +kernel
theorem dX12_lacksEither_31 : decode cX12_lacksEither 31 = .ok (.iload 4, 2) := by decide +kernel
theorem dX12_lacksEither_33 : decode cX12_lacksEither 33 = .ok (.invokevirtual 194, 3) := by decide +kernel
theorem dX12_lacksEither_36 : decode cX12_lacksEither 36 = .ok (.ifCond .ne 7, 3) := by decide +kernel
theorem dX12_lacksEither_39 : decode cX12_lacksEither 39 = .ok (.iconst 2, 1) := by decide +kernel
theorem dX12_lacksEither_40 : decode cX12_lacksEither 40 = .ok (.goto 4, 3) := by decide +kernel
theorem dX12_lacksEither_43 : decode cX12_lacksEither 43 = .ok (.iconst 0, 1) := by decide +kernel
theorem dX12_lacksEither_44 : decode cX12_lacksEither 44 = .ok (.ireturn, 1) := by decide +kernel
set_option maxRecDepth 20000 in
theorem ggX12_compare_X12_lacksEither : GoodIn wsX12_compare wsX12_lacksEither := goodIn_ca (goodIn_r _ [7, 8, 9, 10, 6, 11, 2, 12, 13, 14, 15, 16, 17, 18, 19, 20, 21, 22, 23, 24, 25, 37, 38, 39, 40, 41, 42, 43, 44, 45, 46, 47, 48, 49, 50, 51, 52, 53, 54, 55, 56, 57, 58, 59, 60, 61, 62, 63] (by decide +kernel) (by decide +kernel)) (goodIn_sub (fun _ h => List.mem_cons_of_mem _ (List.mem_append_right _ h)) (by decide +kernel))
set_option maxRecDepth 20000 in
theorem gX12_compare_X12_lacksEither : GoodIn wsX12_compare (wsV RX12 197 RX12 yX12_lacksEither wsX12_lacksEither) := goodIn_app (goodIn_of _ (by decide +kernel)) ggX12_compare_X12_lacksEither
theorem dX12_compare_0 : decode cX12_compare 0 = .ok (.aload_n 0, 1) := by decide +kernel
theorem dX12_compare_1 : decode cX12_compare 1 = .ok (.aload_n 0, 1) := by decide +kernel
theorem dX12_compare_2 : decode cX12_compare 2 = .ok (.iload_n 1, 1) := by decide +kernel
theorem dX12_compare_3 : decode cX12_compare 3 = .ok (.iload_n 2, 1) := by decide +kernel
theorem dX12_compare_4 : decode cX12_compare 4 = .ok (.iload_n 3, 1) := by decide +kernel
theorem dX12_compare_5 : decode cX12_compare 5 = .ok (.iload 4, 2) := by decide +kernel
theorem dX12_compare_7 : decode cX12_compare 7 = .ok (.invokevirtual 197, 3) := by decide +kernel
theorem dX12_compare_10 : decode cX12_compare 10 = .ok (.putfield 62, 3) := by decide +kernel
theorem dX12_compare_13 : decode cX12_compare 13 = .ok (.aload_n 0, 1) := by decide +kernel
theorem dX12_compare_14 : decode cX12_compare 14 = .ok (.getfield 62, 3) := by decide +kernel
theorem dX12_compare_17 : decode cX12_compare 17 = .ok (.ifCond .le 7, 3) := by decide +kernel
theorem dX12_compare_20 : decode cX12_compare 20 = .ok (.iconst 0, 1) := by decide +kernel
theorem dX12_compare_21 : decode cX12_compare 21 = .ok (.goto 30, 3) := by decide +kernel
theorem dX12_compare_24 : decode cX12_compare 24 = .ok (.aload_n 0, 1) := by decide +kernel
theorem dX12_compare_25 : decode cX12_compare 25 = .ok (.aload_n 0, 1) := by decide +kernel
theorem dX12_compare_26 : decode cX12_compare 26 = .ok (.getfield 9, 3) := by decide +kernel
theorem dX12_compare_29 : decode cX12_compare 29 = .ok (.iload_n 1, 1) := by decide +kernel
theorem dX12_compare_30 : decode cX12_compare 30 = .ok (.iconst 1, 1) := by decide +kernel
theorem dX12_compare_31 : decode cX12_compare 31 = .ok (.iload_n 2, 1) := by decide +kernel
theorem dX12_compare_32 : decode cX12_compare 32 = .ok (.iadd, 1) := by decide +kernel
theorem dX12_compare_33 : decode cX12_compare 33 = .ok (.invokestatic 111, 3) := by decide +kernel
theorem dX12_compare_36 : decode cX12_compare 36 = .ok (.aload_n 0, 1) := by decide +kernel
theorem dX12_compare_37 : decode cX12_compare 37 = .ok (.getfield 9, 3) := by decide +kernel
theorem dX12_compare_40 : decode cX12_compare 40 = .ok (.iload_n 3, 1) := by decide +kernel
theorem dX12_compare_41 : decode cX12_compare 41 = .ok (.iconst 1, 1) := by decide +kernel
theorem dX12_compare_42 : decode cX12_compare 42 = .ok (.iload 4, 2) := by decide +kernel
theorem dX12_compare_44 : decode cX12_compare 44 = .ok (.iadd, 1) := by decide +kernel
theorem dX12_compare_45 : decode cX12_compare 45 = .ok (.invokestatic 111, 3) := by decide +kernel
theorem dX12_compare_48 : decode cX12_compare 48 = .ok (.invokevirtual 184, 3) := by decide +kernel
theorem dX12_compare_51 : decode cX12_compare 51 = .ok (.ireturn, 1) := by decide +kernel
set_option maxRecDepth 20000 in
theorem ggX12_refer_X12_isHead : GoodIn wsX12_refer wsX12_isHead := goodIn_ca (goodIn_r _ [6, 7, 8, 9, 5, 10, 56, 57, 58, 59, 60, 61, 62, 63, 64, 65, 66, 67, 68, 69, 70, 71, 72, 73, 74, 75, 76, 77, 78, 79, 80, 81, 82] (by decide +kernel) (by decide +kernel)) (goodIn_sub (fun _ h => List.mem_cons_of_mem _ (List.mem_append_right _ h)) (by decide +kernel))
set_option maxRecDepth 20000 in
theorem gX12_refer_X12_isHead : GoodIn wsX12_refer (wsV RX12 168 RX12 yX12_isHead wsX12_isHead) := goodIn_app (goodIn_of _ (by decide +kernel)) ggX12_refer_X12_isHead
set_option maxRecDepth 20000 in
theorem ggX12_refer_X12_layAhead : GoodIn wsX12_refer wsX12_layAhead := goodIn_ca (goodIn_r _ [14, 15, 7, 56, 57, 58, 59, 60, 61, 62, 63, 64, 65, 66, 67, 68, 69, 70, 71, 72, 73, 74, 75, 76, 77, 78, 79, 80, 81, 82] (by decide +kernel) (by decide +kernel)) (goodIn_sub (fun _ h => List.mem_cons_of_mem _ (List.mem_append_right _ h)) (by decide +kernel))
set_option maxRecDepth 20000 in
theorem gX12_refer_X12_layAhead : GoodIn wsX12_refer (wsV RX12 159 RX12 yX12_layAhead wsX12_layAhead) := goodIn_app (goodIn_of _ (by decide +kernel)) ggX12_refer_X12_layAhead
set_option maxRecDepth 20000 in
theorem ggX12_refer_X12_done : GoodIn wsX12_refer wsX12_done := goodIn_ca (goodIn_r _ [45, 1, 15, 46, 47, 48, 5, 49, 50, 51, 52, 53, 54, 55, 56, 57, 58, 59, 60, 61, 62, 63, 64, 65, 66, 67, 68, 69, 70, 71, 72, 73, 74, 75, 76, 77, 78, 79, 80, 81, 82] (by decide +kernel) (by decide +kernel)) (goodIn_sub (fun _ h => List.mem_cons_of_mem _ (List.mem_append_right _ h)) (by decide +kernel))
set_option maxRecDepth 20000 in
theorem gX12_refer_X12_done : GoodIn wsX12_refer (wsV RX12 165 RX12 yX12_done wsX12_done) := goodIn_app (goodIn_of _ (by decide +kernel)) ggX12_refer_X12_done
theorem dX12_refer_0 : decode cX12_refer 0 = .ok (.aload_n 0, 1) := by decide +kernel
theorem dX12_refer_1 : decode cX12_refer 1 = .ok (.aload_n 0, 1) := by decide +kernel
theorem dX12_refer_2 : decode cX12_refer 2 = .ok (.iload_n 1, 1) := by decide +kernel
theorem dX12_refer_3 : decode cX12_refer 3 = .ok (.invokevirtual 168, 3) := by decide +kernel
theorem dX12_refer_6 : decode cX12_refer 6 = .ok (.ifCond .eq 20, 3) := by decide +kernel
theorem dX12_refer_9 : decode cX12_refer 9 = .ok (.iload_n 2, 1) := by decide +kernel
theorem dX12_refer_10 : decode cX12_refer 10 = .ok (.iconst (-1), 1) := by decide +kernel
theorem dX12_refer_11 : decode cX12_refer 11 = .ok (.if_icmp .eq 11, 3) := by decide +kernel
theorem dX12_refer_14 : decode cX12_refer 14 = .ok (.aload_n 0, 1) := by decide +kernel
theorem dX12_refer_15 : decode cX12_refer 15 = .ok (.iload_n 2, 1) := by decide +kernel
theorem dX12_refer_16 : decode cX12_refer 16 = .ok (.invokevirtual 168, 3) := by decide +kernel
theorem dX12_refer_19 : decode cX12_refer 19 = .ok (.ifCond .eq 7, 3) := by decide +kernel
theorem dX12_refer_22 : decode cX12_refer 22 = .ok (.iconst 0, 1) := by decide +kernel
theorem dX12_refer_23 : decode cX12_refer 23 = .ok (.goto 4, 3) := by decide +kernel
theorem dX12_refer_26 : decode cX12_refer 26 = .ok (.iconst 1, 1) := by decide +kernel
theorem dX12_refer_27 : decode cX12_refer 27 = .ok (.putfield 62, 3) := by decide +kernel
theorem dX12_refer_30 : decode cX12_refer 30 = .ok (.aload_n 0, 1) := by decide +kernel
theorem dX12_refer_31 : decode cX12_refer 31 = .ok (.getfield 62, 3) := by decide +kernel
theorem dX12_refer_34 : decode cX12_refer 34 = .ok (.ifCond .le 5, 3) := by decide +kernel
theorem dX12_refer_37 : decode cX12_refer 37 = .ok (.iconst 0, 1) := by decide +kernel
theorem dX12_refer_38 : decode cX12_refer 38 = .ok (.ireturn, 1) := by decide +kernel
theorem dX12_refer_39 : decode cX12_refer 39 = .ok (.aload_n 0, 1) := by decide +kernel
theorem dX12_refer_40 : decode cX12_refer 40 = .ok (.invokevirtual 159, 3) := by decide +kernel
theorem dX12_refer_43 : decode cX12_refer 43 = .ok (.aload_n 0, 1) := by decide +kernel
theorem dX12_refer_44 : decode cX12_refer 44 = .ok (.iconst 2, 1) := by decide +kernel
theorem dX12_refer_45 : decode cX12_refer 45 = .ok (.putfield 62, 3) := by decide +kernel
theorem dX12_refer_48 : decode cX12_refer 48 = .ok (.aload_n 0, 1) := by decide +kernel
theorem dX12_refer_49 : decode cX12_refer 49 = .ok (.aload_n 0, 1) := by decide +kernel
theorem dX12_refer_50 : decode cX12_refer 50 = .ok (.iload_n 1, 1) := by decide +kernel
theorem dX12_refer_51 : decode cX12_refer 51 = .ok (.iload_n 2, 1) := by decide +kernel
theorem dX12_refer_52 : decode cX12_refer 52 = .ok (.invokevirtual 200, 3) := by decide +kernel
theorem dX12_refer_55 : decode cX12_refer 55 = .ok (.invokevirtual 165, 3) := by decide +kernel
theorem dX12_refer_58 : decode cX12_refer 58 = .ok (.istore_n 3, 1) := by decide +kernel
theorem dX12_refer_59 : decode cX12_refer 59 = .ok (.aload_n 0, 1) := by decide +kernel
theorem dX12_refer_60 : decode cX12_refer 60 = .ok (.getfield 62, 3) := by decide +kernel
theorem dX12_refer_63 : decode cX12_refer 63 = .ok (.ifCond .le 7, 3) := by decide +kernel
theorem dX12_refer_66 : decode cX12_refer 66 = .ok (.iconst 0, 1) := by decide +kernel
theorem dX12_refer_67 : decode cX12_refer 67 = .ok (.goto 6, 3) := by decide +kernel
theorem dX12_refer_70 : decode cX12_refer 70 = .ok (.iload_n 3, 1) := by decide +kernel
theorem dX12_refer_71 : decode cX12_refer 71 = .ok (.iconst 1, 1) := by decide +kernel
theorem dX12_refer_72 : decode cX12_refer 72 = .ok (.isub, 1) := by decide +kernel
theorem dX12_refer_73 : decode cX12_refer 73 = .ok (.ireturn, 1) := by decide +kernel
set_option maxRecDepth 20000 in
theorem ggX12_steps_X12_isHead : GoodIn wsX12_steps wsX12_isHead := goodIn_ca (goodIn_r _ [6, 7, 8, 9, 5, 10, 22, 23, 24, 25, 26, 27, 28, 29, 30, 31, 32, 33, 34, 35, 36, 37, 38, 39, 40, 41, 42, 43, 44, 45, 46, 47, 48] (by decide +kernel) (by decide +kernel)) (goodIn_sub (fun _ h => List.mem_cons_of_mem _ (List.mem_append_right _ h)) (by decide +kernel))
set_option maxRecDepth 20000 in
theorem gX12_steps_X12_isHead : GoodIn wsX12_steps (wsV RX12 168 RX12 yX12_isHead wsX12_isHead) := goodIn_app (goodIn_of _ (by decide +kernel)) ggX12_steps_X12_isHead
set_option maxRecDepth 20000 in
theorem ggX12_steps_X12_refuse : GoodIn wsX12_steps wsX12_refuse := goodIn_r _ [21, 1, 22, 23, 24, 25, 26, 27, 28, 29, 30, 31, 32, 33, 34, 35, 36, 37, 38, 39, 40, 41, 42, 43, 44, 45, 46, 47, 48] (by decide +kernel) (by decide +kernel)
set_option maxRecDepth 20000 in
theorem gX12_steps_X12_refuse : GoodIn wsX12_steps (wsV RX12 79 RX12 yX12_refuse wsX12_refuse) := goodIn_app (goodIn_of _ (by decide +kernel)) ggX12_steps_X12_refuse
theorem dX12_steps_0 : decode cX12_steps 0 = .ok (.aload_n 0, 1) := by decide +kernel
theorem dX12_steps_1 : decode cX12_steps 1 = .ok (.aload_n 0, 1) := by decide +kernel
theorem dX12_steps_2 : decode cX12_steps 2 = .ok (.iload_n 1, 1) := by decide +kernel
theorem dX12_steps_3 : decode cX12_steps 3 = .ok (.invokevirtual 168, 3) := by decide +kernel
theorem dX12_steps_6 : decode cX12_steps 6 = .ok (.ifCond .eq 15, 3) := by decide +kernel
theorem dX12_steps_9 : decode cX12_steps 9 = .ok (.aload_n 0, 1) := by decide +kernel
theorem dX12_steps_10 : decode cX12_steps 10 = .ok (.iload_n 2, 1) := by decide +kernel
theorem dX12_steps_11 : decode cX12_steps 11 = .ok (.invokevirtual 168, 3) := by decide +kernel
theorem dX12_steps_14 : decode cX12_steps 14 = .ok (.ifCond .eq 7, 3) := by decide +kernel
theorem dX12_steps_17 : decode cX12_steps 17 = .ok (.iconst 0, 1) := by decide +kernel
theorem dX12_steps_18 : decode cX12_steps 18 = .ok (.goto 4, 3) := by decide +kernel
theorem dX12_steps_21 : decode cX12_steps 21 = .ok (.iconst 1, 1) := by decide +kernel
theorem dX12_steps_22 : decode cX12_steps 22 = .ok (.putfield 62, 3) := by decide +kernel
theorem dX12_steps_25 : decode cX12_steps 25 = .ok (.aload_n 0, 1) := by decide +kernel
theorem dX12_steps_26 : decode cX12_steps 26 = .ok (.getfield 62, 3) := by decide +kernel
theorem dX12_steps_29 : decode cX12_steps 29 = .ok (.ifCond .le 5, 3) := by decide +kernel
theorem dX12_steps_32 : decode cX12_steps 32 = .ok (.iconst 0, 1) := by decide +kernel
theorem dX12_steps_33 : decode cX12_steps 33 = .ok (.ireturn, 1) := by decide +kernel
theorem dX12_steps_34 : decode cX12_steps 34 = .ok (.iconst 0, 1) := by decide +kernel
theorem dX12_steps_35 : decode cX12_steps 35 = .ok (.istore_n 3, 1) := by decide +kernel
theorem dX12_steps_36 : decode cX12_steps 36 = .ok (.iload_n 1, 1) := by decide +kernel
theorem dX12_steps_37 : decode cX12_steps 37 = .ok (.istore 4, 2) := by decide +kernel
theorem dX12_steps_39 : decode cX12_steps 39 = .ok (.iload 4, 2) := by decide +kernel
theorem dX12_steps_41 : decode cX12_steps 41 = .ok (.ifCond .lt 23, 3) := by decide +kernel
theorem dX12_steps_44 : decode cX12_steps 44 = .ok (.iload 4, 2) := by decide +kernel
theorem dX12_steps_46 : decode cX12_steps 46 = .ok (.iload_n 2, 1) := by decide +kernel
theorem dX12_steps_47 : decode cX12_steps 47 = .ok (.if_icmp .eq 17, 3) := by decide +kernel
theorem dX12_steps_50 : decode cX12_steps 50 = .ok (.aload_n 0, 1) := by decide +kernel
theorem dX12_steps_51 : decode cX12_steps 51 = .ok (.iload 4, 2) := by decide +kernel
theorem dX12_steps_53 : decode cX12_steps 53 = .ok (.invokevirtual 139, 3) := by decide +kernel
theorem dX12_steps_56 : decode cX12_steps 56 = .ok (.istore 4, 2) := by decide +kernel
theorem dX12_steps_58 : decode cX12_steps 58 = .ok (.iinc 3 1, 3) := by decide +kernel
theorem dX12_steps_61 : decode cX12_steps 61 = .ok (.goto (-22), 3) := by decide +kernel
theorem dX12_steps_64 : decode cX12_steps 64 = .ok (.iload 4, 2) := by decide +kernel
theorem dX12_steps_66 : decode cX12_steps 66 = .ok (.iload_n 2, 1) := by decide +kernel
theorem dX12_steps_67 : decode cX12_steps 67 = .ok (.if_icmp .ne 7, 3) := by decide +kernel
theorem dX12_steps_70 : decode cX12_steps 70 = .ok (.iload_n 3, 1) := by decide +kernel
theorem dX12_steps_71 : decode cX12_steps 71 = .ok (.goto 8, 3) := by decide +kernel
theorem dX12_steps_74 : decode cX12_steps 74 = .ok (.aload_n 0, 1) := by decide +kernel
theorem dX12_steps_75 : decode cX12_steps 75 = .ok (.iconst 2, 1) := by decide +kernel
theorem dX12_steps_76 : decode cX12_steps 76 = .ok (.invokevirtual 79, 3) := by decide +kernel
theorem dX12_steps_79 : decode cX12_steps 79 = .ok (.ireturn, 1) := by decide +kernel
set_option maxRecDepth 20000 in
theorem ggX12_isRule_X12_in : GoodIn wsX12_isRule wsX12_in := goodIn_r _ [5] (by decide +kernel) (by decide +kernel)
set_option maxRecDepth 20000 in
theorem gX12_isRule_X12_in : GoodIn wsX12_isRule (va_wsS RX12 72 yX12_in wsX12_in) := goodIn_app (goodIn_of _ (by decide +kernel)) ggX12_isRule_X12_in
theorem dX12_isRule_0 : decode cX12_isRule 0 = .ok (.iload_n 1, 1) := by decide +kernel
theorem dX12_isRule_1 : decode cX12_isRule 1 = .ok (.iconst 0, 1) := by decide +kernel
theorem dX12_isRule_2 : decode cX12_isRule 2 = .ok (.aload_n 0, 1) := by decide +kernel
theorem dX12_isRule_3 : decode cX12_isRule 3 = .ok (.getfield 9, 3) := by decide +kernel
theorem dX12_isRule_6 : decode cX12_isRule 6 = .ok (.sipush 1158, 3) := by decide +kernel
theorem dX12_isRule_9 : decode cX12_isRule 9 = .ok (.iaload, 1) := by decide +kernel
theorem dX12_isRule_10 : decode cX12_isRule 10 = .ok (.iconst 1, 1) := by decide +kernel
theorem dX12_isRule_11 : decode cX12_isRule 11 = .ok (.isub, 1) := by decide +kernel
theorem dX12_isRule_12 : decode cX12_isRule 12 = .ok (.invokestatic 72, 3) := by decide +kernel
theorem dX12_isRule_15 : decode cX12_isRule 15 = .ok (.ireturn, 1) := by decide +kernel
set_option maxRecDepth 20000 in
theorem ggX12_addRule_X12_isLetterPlace : GoodIn wsX12_addRule wsX12_isLetterPlace := goodIn_ca (goodIn_r _ [7, 1, 8, 9, 6, 10, 21, 22, 23, 24, 25, 26, 27, 28, 29, 30, 31, 32, 33, 34, 35, 36, 37, 38, 39, 40, 41, 42, 43, 44, 45, 46, 47] (by decide +kernel) (by decide +kernel)) (goodIn_sub (fun _ h => List.mem_cons_of_mem _ (List.mem_append_right _ h)) (by decide +kernel))
set_option maxRecDepth 20000 in
theorem gX12_addRule_X12_isLetterPlace : GoodIn wsX12_addRule (wsV RX12 93 RX12 yX12_isLetterPlace wsX12_isLetterPlace) := goodIn_app (goodIn_of _ (by decide +kernel)) ggX12_addRule_X12_isLetterPlace
set_option maxRecDepth 20000 in
theorem ggX12_addRule_X12_in : GoodIn wsX12_addRule wsX12_in := goodIn_r _ [10] (by decide +kernel) (by decide +kernel)
set_option maxRecDepth 20000 in
theorem gX12_addRule_X12_in : GoodIn wsX12_addRule (va_wsS RX12 72 yX12_in wsX12_in) := goodIn_app (goodIn_of _ (by decide +kernel)) ggX12_addRule_X12_in
set_option maxRecDepth 20000 in
theorem ggX12_addRule_X12_keep : GoodIn wsX12_addRule wsX12_keep := goodIn_ca (goodIn_r _ [14, 1, 15, 16, 17, 6, 18, 19, 20, 21, 22, 23, 24, 25, 26, 27, 28, 29, 30, 31, 32, 33, 34, 35, 36, 37, 38, 39, 40, 41, 42, 43, 44, 45, 46, 47] (by decide +kernel) (by decide +kernel)) (goodIn_sub (fun _ h => List.mem_cons_of_mem _ (List.mem_append_right _ h)) (by decide +kernel))
set_option maxRecDepth 20000 in
theorem gX12_addRule_X12_keep : GoodIn wsX12_addRule (wsV RX12 90 RX12 yX12_keep wsX12_keep) := goodIn_app (goodIn_of _ (by decide +kernel)) ggX12_addRule_X12_keep
theorem dX12_addRule_0 : decode cX12_addRule 0 = .ok (.aload_n 0, 1) := by decide +kernel
theorem dX12_addRule_1 : decode cX12_addRule 1 = .ok (.aload_n 0, 1) := by decide +kernel
theorem dX12_addRule_2 : decode cX12_addRule 2 = .ok (.iload_n 1, 1) := by decide +kernel
theorem dX12_addRule_3 : decode cX12_addRule 3 = .ok (.invokevirtual 93, 3) := by decide +kernel
theorem dX12_addRule_6 : decode cX12_addRule 6 = .ok (.ifCond .eq 16, 3) := by decide +kernel
theorem dX12_addRule_9 : decode cX12_addRule 9 = .ok (.iload_n 2, 1) := by decide +kernel
theorem dX12_addRule_10 : decode cX12_addRule 10 = .ok (.iconst (-1), 1) := by decide +kernel
theorem dX12_addRule_11 : decode cX12_addRule 11 = .ok (.if_icmp .eq 15, 3) := by decide +kernel
theorem dX12_addRule_14 : decode cX12_addRule 14 = .ok (.aload_n 0, 1) := by decide +kernel
theorem dX12_addRule_15 : decode cX12_addRule 15 = .ok (.iload_n 2, 1) := by decide +kernel
theorem dX12_addRule_16 : decode cX12_addRule 16 = .ok (.invokevirtual 93, 3) := by decide +kernel
theorem dX12_addRule_19 : decode cX12_addRule 19 = .ok (.ifCond .ne 7, 3) := by decide +kernel
theorem dX12_addRule_22 : decode cX12_addRule 22 = .ok (.iconst 1, 1) := by decide +kernel
theorem dX12_addRule_23 : decode cX12_addRule 23 = .ok (.goto 44, 3) := by decide +kernel
theorem dX12_addRule_26 : decode cX12_addRule 26 = .ok (.iload_n 3, 1) := by decide +kernel
theorem dX12_addRule_27 : decode cX12_addRule 27 = .ok (.iconst 0, 1) := by decide +kernel
theorem dX12_addRule_28 : decode cX12_addRule 28 = .ok (.iconst 3, 1) := by decide +kernel
theorem dX12_addRule_29 : decode cX12_addRule 29 = .ok (.invokestatic 72, 3) := by decide +kernel
theorem dX12_addRule_32 : decode cX12_addRule 32 = .ok (.ifCond .eq 13, 3) := by decide +kernel
theorem dX12_addRule_35 : decode cX12_addRule 35 = .ok (.iload 4, 2) := by decide +kernel
theorem dX12_addRule_37 : decode cX12_addRule 37 = .ok (.iconst 0, 1) := by decide +kernel
theorem dX12_addRule_38 : decode cX12_addRule 38 = .ok (.iconst 3, 1) := by decide +kernel
theorem dX12_addRule_39 : decode cX12_addRule 39 = .ok (.invokestatic 72, 3) := by decide +kernel
theorem dX12_addRule_42 : decode cX12_addRule 42 = .ok (.ifCond .ne 7, 3) := by decide +kernel
theorem dX12_addRule_45 : decode cX12_addRule 45 = .ok (.iconst 2, 1) := by decide +kernel
theorem dX12_addRule_46 : decode cX12_addRule 46 = .ok (.goto 21, 3) := by decide +kernel
theorem dX12_addRule_49 : decode cX12_addRule 49 = .ok (.aload_n 0, 1) := by decide +kernel
theorem dX12_addRule_50 : decode cX12_addRule 50 = .ok (.getfield 9, 3) := by decide +kernel
theorem dX12_addRule_53 : decode cX12_addRule 53 = .ok (.sipush 1158, 3) := by decide +kernel
theorem dX12_addRule_56 : decode cX12_addRule 56 = .ok (.iaload, 1) := by decide +kernel
theorem dX12_addRule_57 : decode cX12_addRule 57 = .ok (.bipush 8, 2) := by decide +kernel
theorem dX12_addRule_59 : decode cX12_addRule 59 = .ok (.if_icmp .ne 7, 3) := by decide +kernel
theorem dX12_addRule_62 : decode cX12_addRule 62 = .ok (.iconst 3, 1) := by decide +kernel
theorem dX12_addRule_63 : decode cX12_addRule 63 = .ok (.goto 4, 3) := by decide +kernel
theorem dX12_addRule_66 : decode cX12_addRule 66 = .ok (.iconst 0, 1) := by decide +kernel
theorem dX12_addRule_67 : decode cX12_addRule 67 = .ok (.putfield 62, 3) := by decide +kernel
theorem dX12_addRule_70 : decode cX12_addRule 70 = .ok (.aload_n 0, 1) := by decide +kernel
theorem dX12_addRule_71 : decode cX12_addRule 71 = .ok (.getfield 62, 3) := by decide +kernel
theorem dX12_addRule_74 : decode cX12_addRule 74 = .ok (.ifCond .le 5, 3) := by decide +kernel
theorem dX12_addRule_77 : decode cX12_addRule 77 = .ok (.iconst 0, 1) := by decide +kernel
theorem dX12_addRule_78 : decode cX12_addRule 78 = .ok (.ireturn, 1) := by decide +kernel
theorem dX12_addRule_79 : decode cX12_addRule 79 = .ok (.aload_n 0, 1) := by decide +kernel
theorem dX12_addRule_80 : decode cX12_addRule 80 = .ok (.invokevirtual 90, 3) := by decide +kernel
theorem dX12_addRule_83 : decode cX12_addRule 83 = .ok (.sipush 1159, 3) := by decide +kernel
theorem dX12_addRule_86 : decode cX12_addRule 86 = .ok (.iconst 4, 1) := by decide +kernel
theorem dX12_addRule_87 : decode cX12_addRule 87 = .ok (.aload_n 0, 1) := by decide +kernel
theorem dX12_addRule_88 : decode cX12_addRule 88 = .ok (.getfield 9, 3) := by decide +kernel
theorem dX12_addRule_91 : decode cX12_addRule 91 = .ok (.sipush 1158, 3) := by decide +kernel
theorem dX12_addRule_94 : decode cX12_addRule 94 = .ok (.iaload, 1) := by decide +kernel
theorem dX12_addRule_95 : decode cX12_addRule 95 = .ok (.imul, 1) := by decide +kernel
theorem dX12_addRule_96 : decode cX12_addRule 96 = .ok (.iadd, 1) := by decide +kernel
theorem dX12_addRule_97 : decode cX12_addRule 97 = .ok (.istore 5, 2) := by decide +kernel
theorem dX12_addRule_99 : decode cX12_addRule 99 = .ok (.aload_n 0, 1) := by decide +kernel
theorem dX12_addRule_100 : decode cX12_addRule 100 = .ok (.getfield 9, 3) := by decide +kernel
theorem dX12_addRule_103 : decode cX12_addRule 103 = .ok (.iload 5, 2) := by decide +kernel
theorem dX12_addRule_105 : decode cX12_addRule 105 = .ok (.aload_n 0, 1) := by decide +kernel
theorem dX12_addRule_106 : decode cX12_addRule 106 = .ok (.getfield 9, 3) := by decide +kernel
theorem dX12_addRule_109 : decode cX12_addRule 109 = .ok (.iconst 1, 1) := by decide +kernel
theorem dX12_addRule_110 : decode cX12_addRule 110 = .ok (.iload_n 1, 1) := by decide +kernel
theorem dX12_addRule_111 : decode cX12_addRule 111 = .ok (.iadd, 1) := by decide +kernel
theorem dX12_addRule_112 : decode cX12_addRule 112 = .ok (.iaload, 1) := by decide +kernel
theorem dX12_addRule_113 : decode cX12_addRule 113 = .ok (.iastore, 1) := by decide +kernel
theorem dX12_addRule_114 : decode cX12_addRule 114 = .ok (.aload_n 0, 1) := by decide +kernel
theorem dX12_addRule_115 : decode cX12_addRule 115 = .ok (.getfield 9, 3) := by decide +kernel
theorem dX12_addRule_118 : decode cX12_addRule 118 = .ok (.iload 5, 2) := by decide +kernel
theorem dX12_addRule_120 : decode cX12_addRule 120 = .ok (.iconst 1, 1) := by decide +kernel
theorem dX12_addRule_121 : decode cX12_addRule 121 = .ok (.iadd, 1) := by decide +kernel
theorem dX12_addRule_122 : decode cX12_addRule 122 = .ok (.iload_n 2, 1) := by decide +kernel
theorem dX12_addRule_123 : decode cX12_addRule 123 = .ok (.iconst (-1), 1) := by decide +kernel
theorem dX12_addRule_124 : decode cX12_addRule 124 = .ok (.if_icmp .ne 7, 3) := by decide +kernel
theorem dX12_addRule_127 : decode cX12_addRule 127 = .ok (.iconst 0, 1) := by decide +kernel
theorem dX12_addRule_128 : decode cX12_addRule 128 = .ok (.goto 11, 3) := by decide +kernel
theorem dX12_addRule_131 : decode cX12_addRule 131 = .ok (.aload_n 0, 1) := by decide +kernel
theorem dX12_addRule_132 : decode cX12_addRule 132 = .ok (.getfield 9, 3) := by decide +kernel
theorem dX12_addRule_135 : decode cX12_addRule 135 = .ok (.iconst 1, 1) := by decide +kernel
theorem dX12_addRule_136 : decode cX12_addRule 136 = .ok (.iload_n 2, 1) := by decide +kernel
theorem dX12_addRule_137 : decode cX12_addRule 137 = .ok (.iadd, 1) := by decide +kernel
theorem dX12_addRule_138 : decode cX12_addRule 138 = .ok (.iaload, 1) := by decide +kernel
theorem dX12_addRule_139 : decode cX12_addRule 139 = .ok (.iastore, 1) := by decide +kernel
theorem dX12_addRule_140 : decode cX12_addRule 140 = .ok (.aload_n 0, 1) := by decide +kernel
theorem dX12_addRule_141 : decode cX12_addRule 141 = .ok (.getfield 9, 3) := by decide +kernel
theorem dX12_addRule_144 : decode cX12_addRule 144 = .ok (.iload 5, 2) := by decide +kernel
theorem dX12_addRule_146 : decode cX12_addRule 146 = .ok (.iconst 2, 1) := by decide +kernel
theorem dX12_addRule_147 : decode cX12_addRule 147 = .ok (.iadd, 1) := by decide +kernel
theorem dX12_addRule_148 : decode cX12_addRule 148 = .ok (.iload_n 3, 1) := by decide +kernel
theorem dX12_addRule_149 : decode cX12_addRule 149 = .ok (.iastore, 1) := by decide +kernel
theorem dX12_addRule_150 : decode cX12_addRule 150 = .ok (.aload_n 0, 1) := by decide +kernel
theorem dX12_addRule_151 : decode cX12_addRule 151 = .ok (.getfield 9, 3) := by decide +kernel
theorem dX12_addRule_154 : decode cX12_addRule 154 = .ok (.iload 5, 2) := by decide +kernel
theorem dX12_addRule_156 : decode cX12_addRule 156 = .ok (.iconst 3, 1) := by decide +kernel
theorem dX12_addRule_157 : decode cX12_addRule 157 = .ok (.iadd, 1) := by decide +kernel
theorem dX12_addRule_158 : decode cX12_addRule 158 = .ok (.iload 4, 2) := by decide +kernel
theorem dX12_addRule_160 : decode cX12_addRule 160 = .ok (.iastore, 1) := by decide +kernel
theorem dX12_addRule_161 : decode cX12_addRule 161 = .ok (.aload_n 0, 1) := by decide +kernel
theorem dX12_addRule_162 : decode cX12_addRule 162 = .ok (.getfield 9, 3) := by decide +kernel
theorem dX12_addRule_165 : decode cX12_addRule 165 = .ok (.sipush 1158, 3) := by decide +kernel
theorem dX12_addRule_168 : decode cX12_addRule 168 = .ok (.dup2, 1) := by decide +kernel
theorem dX12_addRule_169 : decode cX12_addRule 169 = .ok (.iaload, 1) := by decide +kernel
theorem dX12_addRule_170 : decode cX12_addRule 170 = .ok (.iconst 1, 1) := by decide +kernel
theorem dX12_addRule_171 : decode cX12_addRule 171 = .ok (.iadd, 1) := by decide +kernel
theorem dX12_addRule_172 : decode cX12_addRule 172 = .ok (.iastore, 1) := by decide +kernel
theorem dX12_addRule_173 : decode cX12_addRule 173 = .ok (.aload_n 0, 1) := by decide +kernel
theorem dX12_addRule_174 : decode cX12_addRule 174 = .ok (.getfield 9, 3) := by decide +kernel
theorem dX12_addRule_177 : decode cX12_addRule 177 = .ok (.sipush 1158, 3) := by decide +kernel
theorem dX12_addRule_180 : decode cX12_addRule 180 = .ok (.iaload, 1) := by decide +kernel
theorem dX12_addRule_181 : decode cX12_addRule 181 = .ok (.iconst 1, 1) := by decide +kernel
theorem dX12_addRule_182 : decode cX12_addRule 182 = .ok (.isub, 1) := by decide +kernel
theorem dX12_addRule_183 : decode cX12_addRule 183 = .ok (.ireturn, 1) := by decide +kernel
theorem dX12_layResults_0 : decode cX12_layResults 0 = .ok (.iconst 0, 1) := by decide +kernel
theorem dX12_layResults_1 : decode cX12_layResults 1 = .ok (.istore_n 1, 1) := by decide +kernel
theorem dX12_layResults_2 : decode cX12_layResults 2 = .ok (.iload_n 1, 1) := by decide +kernel
theorem dX12_layResults_3 : decode cX12_layResults 3 = .ok (.aload_n 0, 1) := by decide +kernel
theorem dX12_layResults_4 : decode cX12_layResults 4 = .ok (.getfield 9, 3) := by decide +kernel
theorem dX12_layResults_7 : decode cX12_layResults 7 = .ok (.bipush 37, 2) := by decide +kernel
theorem dX12_layResults_9 : decode cX12_layResults 9 = .ok (.iaload, 1) := by decide +kernel
theorem dX12_layResults_10 : decode cX12_layResults 10 = .ok (.if_icmp .ge 68, 3) := by decide +kernel
theorem dX12_layResults_13 : decode cX12_layResults 13 = .ok (.aload_n 0, 1) := by decide +kernel
theorem dX12_layResults_14 : decode cX12_layResults 14 = .ok (.iload_n 1, 1) := by decide +kernel
theorem dX12_layResults_15 : decode cX12_layResults 15 = .ok (.iconst 0, 1) := by decide +kernel
theorem dX12_layResults_16 : decode cX12_layResults 16 = .ok (.invokevirtual 218, 3) := by decide +kernel
theorem dX12_layResults_19 : decode cX12_layResults 19 = .ok (.iconst 0, 1) := by decide +kernel
theorem dX12_layResults_20 : decode cX12_layResults 20 = .ok (.istore_n 2, 1) := by decide +kernel
theorem dX12_layResults_21 : decode cX12_layResults 21 = .ok (.iload_n 2, 1) := by decide +kernel
theorem dX12_layResults_22 : decode cX12_layResults 22 = .ok (.aload_n 0, 1) := by decide +kernel
theorem dX12_layResults_23 : decode cX12_layResults 23 = .ok (.getfield 35, 3) := by decide +kernel
theorem dX12_layResults_26 : decode cX12_layResults 26 = .ok (.bipush 9, 2) := by decide +kernel
theorem dX12_layResults_28 : decode cX12_layResults 28 = .ok (.aload_n 0, 1) := by decide +kernel
theorem dX12_layResults_29 : decode cX12_layResults 29 = .ok (.getfield 206, 3) := by decide +kernel
theorem dX12_layResults_32 : decode cX12_layResults 32 = .ok (.iconst 1, 1) := by decide +kernel
theorem dX12_layResults_33 : decode cX12_layResults 33 = .ok (.isub, 1) := by decide +kernel
theorem dX12_layResults_34 : decode cX12_layResults 34 = .ok (.imul, 1) := by decide +kernel
theorem dX12_layResults_35 : decode cX12_layResults 35 = .ok (.iaload, 1) := by decide +kernel
theorem dX12_layResults_36 : decode cX12_layResults 36 = .ok (.if_icmp .gt 36, 3) := by decide +kernel
theorem dX12_layResults_39 : decode cX12_layResults 39 = .ok (.aload_n 0, 1) := by decide +kernel
theorem dX12_layResults_40 : decode cX12_layResults 40 = .ok (.getfield 41, 3) := by decide +kernel
theorem dX12_layResults_43 : decode cX12_layResults 43 = .ok (.bipush 9, 2) := by decide +kernel
theorem dX12_layResults_45 : decode cX12_layResults 45 = .ok (.iload_n 1, 1) := by decide +kernel
theorem dX12_layResults_46 : decode cX12_layResults 46 = .ok (.imul, 1) := by decide +kernel
theorem dX12_layResults_47 : decode cX12_layResults 47 = .ok (.iload_n 2, 1) := by decide +kernel
theorem dX12_layResults_48 : decode cX12_layResults 48 = .ok (.iadd, 1) := by decide +kernel
theorem dX12_layResults_49 : decode cX12_layResults 49 = .ok (.aload_n 0, 1) := by decide +kernel
theorem dX12_layResults_50 : decode cX12_layResults 50 = .ok (.getfield 35, 3) := by decide +kernel
theorem dX12_layResults_53 : decode cX12_layResults 53 = .ok (.bipush 9, 2) := by decide +kernel
theorem dX12_layResults_55 : decode cX12_layResults 55 = .ok (.aload_n 0, 1) := by decide +kernel
theorem dX12_layResults_56 : decode cX12_layResults 56 = .ok (.getfield 206, 3) := by decide +kernel
theorem dX12_layResults_59 : decode cX12_layResults 59 = .ok (.iconst 1, 1) := by decide +kernel
theorem dX12_layResults_60 : decode cX12_layResults 60 = .ok (.isub, 1) := by decide +kernel
theorem dX12_layResults_61 : decode cX12_layResults 61 = .ok (.imul, 1) := by decide +kernel
theorem dX12_layResults_62 : decode cX12_layResults 62 = .ok (.iload_n 2, 1) := by decide +kernel
theorem dX12_layResults_63 : decode cX12_layResults 63 = .ok (.iadd, 1) := by decide +kernel
theorem dX12_layResults_64 : decode cX12_layResults 64 = .ok (.iaload, 1) := by decide +kernel
theorem dX12_layResults_65 : decode cX12_layResults 65 = .ok (.iastore, 1) := by decide +kernel
theorem dX12_layResults_66 : decode cX12_layResults 66 = .ok (.iinc 2 1, 3) := by decide +kernel
theorem dX12_layResults_69 : decode cX12_layResults 69 = .ok (.goto (-48), 3) := by decide +kernel
theorem dX12_layResults_72 : decode cX12_layResults 72 = .ok (.iinc 1 1, 3) := by decide +kernel
theorem dX12_layResults_75 : decode cX12_layResults 75 = .ok (.goto (-73), 3) := by decide +kernel
theorem dX12_layResults_78 : decode cX12_layResults 78 = .ok (.return_, 1) := by decide +kernel
set_option maxRecDepth 20000 in
theorem ggX12_exchange_X12_isRule : GoodIn wsX12_exchange wsX12_isRule := goodIn_ca (goodIn_r _ [9, 4, 10, 11, 8, 12, 54, 55, 56, 57, 58, 59, 60, 61, 62, 63, 64, 65, 66, 67, 68, 69, 70, 71, 72, 73, 74, 75, 76, 77, 78, 79, 80] (by decide +kernel) (by decide +kernel)) (goodIn_sub (fun _ h => List.mem_cons_of_mem _ (List.mem_append_right _ h)) (by decide +kernel))
set_option maxRecDepth 20000 in
theorem gX12_exchange_X12_isRule : GoodIn wsX12_exchange (wsV RX12 224 RX12 yX12_isRule wsX12_isRule) := goodIn_app (goodIn_of _ (by decide +kernel)) ggX12_exchange_X12_isRule
set_option maxRecDepth 20000 in
theorem ggX12_exchange_X12_keep : GoodIn wsX12_exchange wsX12_keep := goodIn_ca (goodIn_r _ [16, 4, 17, 18, 19, 8, 20, 21, 22, 54, 55, 56, 57, 58, 59, 60, 61, 62, 63, 64, 65, 66, 67, 68, 69, 70, 71, 72, 73, 74, 75, 76, 77, 78, 79, 80] (by decide +kernel) (by decide +kernel)) (goodIn_sub (fun _ h => List.mem_cons_of_mem _ (List.mem_append_right _ h)) (by decide +kernel))
set_option maxRecDepth 20000 in
theorem gX12_exchange_X12_keep : GoodIn wsX12_exchange (wsV RX12 90 RX12 yX12_keep wsX12_keep) := goodIn_app (goodIn_of _ (by decide +kernel)) ggX12_exchange_X12_keep
set_option maxRecDepth 20000 in
theorem ggX12_exchange_X12_layResults : GoodIn wsX12_exchange wsX12_layResults := goodIn_ca (goodIn_r _ [26, 4, 27, 28, 3, 29, 30, 31, 8, 32, 33, 34, 35, 36, 37, 38, 39, 40, 41, 42, 43, 44, 45, 46, 47, 48, 49, 50, 54, 55, 56, 57, 58, 59, 60, 61, 62, 63, 64, 65, 66, 67, 68, 69, 70, 71, 72, 73, 74, 75, 76, 77, 78, 79, 80] (by decide +kernel) (by decide +kernel)) (goodIn_sub (fun _ h => List.mem_cons_of_mem _ (List.mem_append_right _ h)) (by decide +kernel))
set_option maxRecDepth 20000 in
theorem gX12_exchange_X12_layResults : GoodIn wsX12_exchange (wsV RX12 227 RX12 yX12_layResults wsX12_layResults) := goodIn_app (goodIn_of _ (by decide +kernel)) ggX12_exchange_X12_layResults
theorem dX12_exchange_0 : decode cX12_exchange 0 = .ok (.aload_n 0, 1) := by decide +kernel
theorem dX12_exchange_1 : decode cX12_exchange 1 = .ok (.aload_n 0, 1) := by decide +kernel
theorem dX12_exchange_2 : decode cX12_exchange 2 = .ok (.iload_n 1, 1) := by decide +kernel
theorem dX12_exchange_3 : decode cX12_exchange 3 = .ok (.invokevirtual 224, 3) := by decide +kernel
theorem dX12_exchange_6 : decode cX12_exchange 6 = .ok (.ifCond .eq 15, 3) := by decide +kernel
theorem dX12_exchange_9 : decode cX12_exchange 9 = .ok (.aload_n 0, 1) := by decide +kernel
theorem dX12_exchange_10 : decode cX12_exchange 10 = .ok (.iload_n 2, 1) := by decide +kernel
theorem dX12_exchange_11 : decode cX12_exchange 11 = .ok (.invokevirtual 224, 3) := by decide +kernel
theorem dX12_exchange_14 : decode cX12_exchange 14 = .ok (.ifCond .eq 7, 3) := by decide +kernel
theorem dX12_exchange_17 : decode cX12_exchange 17 = .ok (.iconst 0, 1) := by decide +kernel
theorem dX12_exchange_18 : decode cX12_exchange 18 = .ok (.goto 4, 3) := by decide +kernel
theorem dX12_exchange_21 : decode cX12_exchange 21 = .ok (.iconst 1, 1) := by decide +kernel
theorem dX12_exchange_22 : decode cX12_exchange 22 = .ok (.putfield 62, 3) := by decide +kernel
theorem dX12_exchange_25 : decode cX12_exchange 25 = .ok (.aload_n 0, 1) := by decide +kernel
theorem dX12_exchange_26 : decode cX12_exchange 26 = .ok (.getfield 62, 3) := by decide +kernel
theorem dX12_exchange_29 : decode cX12_exchange 29 = .ok (.ifCond .le 5, 3) := by decide +kernel
theorem dX12_exchange_32 : decode cX12_exchange 32 = .ok (.iconst 0, 1) := by decide +kernel
theorem dX12_exchange_33 : decode cX12_exchange 33 = .ok (.ireturn, 1) := by decide +kernel
theorem dX12_exchange_34 : decode cX12_exchange 34 = .ok (.aload_n 0, 1) := by decide +kernel
theorem dX12_exchange_35 : decode cX12_exchange 35 = .ok (.invokevirtual 90, 3) := by decide +kernel
theorem dX12_exchange_38 : decode cX12_exchange 38 = .ok (.aload_n 0, 1) := by decide +kernel
theorem dX12_exchange_39 : decode cX12_exchange 39 = .ok (.invokevirtual 227, 3) := by decide +kernel
theorem dX12_exchange_42 : decode cX12_exchange 42 = .ok (.iconst 0, 1) := by decide +kernel
theorem dX12_exchange_43 : decode cX12_exchange 43 = .ok (.istore_n 3, 1) := by decide +kernel
theorem dX12_exchange_44 : decode cX12_exchange 44 = .ok (.iload_n 3, 1) := by decide +kernel
theorem dX12_exchange_45 : decode cX12_exchange 45 = .ok (.sipush 180, 3) := by decide +kernel
theorem dX12_exchange_48 : decode cX12_exchange 48 = .ok (.if_icmp .ge 21, 3) := by decide +kernel
theorem dX12_exchange_51 : decode cX12_exchange 51 = .ok (.aload_n 0, 1) := by decide +kernel
theorem dX12_exchange_52 : decode cX12_exchange 52 = .ok (.getfield 44, 3) := by decide +kernel
theorem dX12_exchange_55 : decode cX12_exchange 55 = .ok (.iload_n 3, 1) := by decide +kernel
theorem dX12_exchange_56 : decode cX12_exchange 56 = .ok (.aload_n 0, 1) := by decide +kernel
theorem dX12_exchange_57 : decode cX12_exchange 57 = .ok (.getfield 41, 3) := by decide +kernel
theorem dX12_exchange_60 : decode cX12_exchange 60 = .ok (.iload_n 3, 1) := by decide +kernel
theorem dX12_exchange_61 : decode cX12_exchange 61 = .ok (.iaload, 1) := by decide +kernel
theorem dX12_exchange_62 : decode cX12_exchange 62 = .ok (.iastore, 1) := by decide +kernel
theorem dX12_exchange_63 : decode cX12_exchange 63 = .ok (.iinc 3 1, 3) := by decide +kernel
theorem dX12_exchange_66 : decode cX12_exchange 66 = .ok (.goto (-22), 3) := by decide +kernel
theorem dX12_exchange_69 : decode cX12_exchange 69 = .ok (.iconst 0, 1) := by decide +kernel
theorem dX12_exchange_70 : decode cX12_exchange 70 = .ok (.istore_n 3, 1) := by decide +kernel
theorem dX12_exchange_71 : decode cX12_exchange 71 = .ok (.iload_n 3, 1) := by decide +kernel
theorem dX12_exchange_72 : decode cX12_exchange 72 = .ok (.iconst 4, 1) := by decide +kernel
theorem dX12_exchange_73 : decode cX12_exchange 73 = .ok (.if_icmp .ge 69, 3) := by decide +kernel
theorem dX12_exchange_76 : decode cX12_exchange 76 = .ok (.aload_n 0, 1) := by decide +kernel
theorem dX12_exchange_77 : decode cX12_exchange 77 = .ok (.getfield 9, 3) := by decide +kernel
theorem dX12_exchange_80 : decode cX12_exchange 80 = .ok (.sipush 1159, 3) := by decide +kernel
theorem dX12_exchange_83 : decode cX12_exchange 83 = .ok (.iconst 4, 1) := by decide +kernel
theorem dX12_exchange_84 : decode cX12_exchange 84 = .ok (.iload_n 1, 1) := by decide +kernel
theorem dX12_exchange_85 : decode cX12_exchange 85 = .ok (.imul, 1) := by decide +kernel
theorem dX12_exchange_86 : decode cX12_exchange 86 = .ok (.iadd, 1) := by decide +kernel
theorem dX12_exchange_87 : decode cX12_exchange 87 = .ok (.iload_n 3, 1) := by decide +kernel
theorem dX12_exchange_88 : decode cX12_exchange 88 = .ok (.iadd, 1) := by decide +kernel
theorem dX12_exchange_89 : decode cX12_exchange 89 = .ok (.iaload, 1) := by decide +kernel
theorem dX12_exchange_90 : decode cX12_exchange 90 = .ok (.istore 4, 2) := by decide +kernel
theorem dX12_exchange_92 : decode cX12_exchange 92 = .ok (.aload_n 0, 1) := by decide +kernel
theorem dX12_exchange_93 : decode cX12_exchange 93 = .ok (.getfield 9, 3) := by decide +kernel
theorem dX12_exchange_96 : decode cX12_exchange 96 = .ok (.sipush 1159, 3) := by decide +kernel
theorem dX12_exchange_99 : decode cX12_exchange 99 = .ok (.iconst 4, 1) := by decide +kernel
theorem dX12_exchange_100 : decode cX12_exchange 100 = .ok (.iload_n 1, 1) := by decide +kernel
theorem dX12_exchange_101 : decode cX12_exchange 101 = .ok (.imul, 1) := by decide +kernel
theorem dX12_exchange_102 : decode cX12_exchange 102 = .ok (.iadd, 1) := by decide +kernel
theorem dX12_exchange_103 : decode cX12_exchange 103 = .ok (.iload_n 3, 1) := by decide +kernel
theorem dX12_exchange_104 : decode cX12_exchange 104 = .ok (.iadd, 1) := by decide +kernel
theorem dX12_exchange_105 : decode cX12_exchange 105 = .ok (.aload_n 0, 1) := by decide +kernel
theorem dX12_exchange_106 : decode cX12_exchange 106 = .ok (.getfield 9, 3) := by decide +kernel
theorem dX12_exchange_109 : decode cX12_exchange 109 = .ok (.sipush 1159, 3) := by decide +kernel
theorem dX12_exchange_112 : decode cX12_exchange 112 = .ok (.iconst 4, 1) := by decide +kernel
theorem dX12_exchange_113 : decode cX12_exchange 113 = .ok (.iload_n 2, 1) := by decide +kernel
theorem dX12_exchange_114 : decode cX12_exchange 114 = .ok (.imul, 1) := by decide +kernel
theorem dX12_exchange_115 : decode cX12_exchange 115 = .ok (.iadd, 1) := by decide +kernel
theorem dX12_exchange_116 : decode cX12_exchange 116 = .ok (.iload_n 3, 1) := by decide +kernel
theorem dX12_exchange_117 : decode cX12_exchange 117 = .ok (.iadd, 1) := by decide +kernel
theorem dX12_exchange_118 : decode cX12_exchange 118 = .ok (.iaload, 1) := by decide +kernel
theorem dX12_exchange_119 : decode cX12_exchange 119 = .ok (.iastore, 1) := by decide +kernel
theorem dX12_exchange_120 : decode cX12_exchange 120 = .ok (.aload_n 0, 1) := by decide +kernel
theorem dX12_exchange_121 : decode cX12_exchange 121 = .ok (.getfield 9, 3) := by decide +kernel
theorem dX12_exchange_124 : decode cX12_exchange 124 = .ok (.sipush 1159, 3) := by decide +kernel
theorem dX12_exchange_127 : decode cX12_exchange 127 = .ok (.iconst 4, 1) := by decide +kernel
theorem dX12_exchange_128 : decode cX12_exchange 128 = .ok (.iload_n 2, 1) := by decide +kernel
theorem dX12_exchange_129 : decode cX12_exchange 129 = .ok (.imul, 1) := by decide +kernel
theorem dX12_exchange_130 : decode cX12_exchange 130 = .ok (.iadd, 1) := by decide +kernel
theorem dX12_exchange_131 : decode cX12_exchange 131 = .ok (.iload_n 3, 1) := by decide +kernel
theorem dX12_exchange_132 : decode cX12_exchange 132 = .ok (.iadd, 1) := by decide +kernel
theorem dX12_exchange_133 : decode cX12_exchange 133 = .ok (.iload 4, 2) := by decide +kernel
theorem dX12_exchange_135 : decode cX12_exchange 135 = .ok (.iastore, 1) := by decide +kernel
theorem dX12_exchange_136 : decode cX12_exchange 136 = .ok (.iinc 3 1, 3) := by decide +kernel
theorem dX12_exchange_139 : decode cX12_exchange 139 = .ok (.goto (-68), 3) := by decide +kernel
theorem dX12_exchange_142 : decode cX12_exchange 142 = .ok (.aload_n 0, 1) := by decide +kernel
theorem dX12_exchange_143 : decode cX12_exchange 143 = .ok (.invokevirtual 227, 3) := by decide +kernel
theorem dX12_exchange_146 : decode cX12_exchange 146 = .ok (.iconst 0, 1) := by decide +kernel
theorem dX12_exchange_147 : decode cX12_exchange 147 = .ok (.istore_n 3, 1) := by decide +kernel
theorem dX12_exchange_148 : decode cX12_exchange 148 = .ok (.iconst 0, 1) := by decide +kernel
theorem dX12_exchange_149 : decode cX12_exchange 149 = .ok (.istore 4, 2) := by decide +kernel
theorem dX12_exchange_151 : decode cX12_exchange 151 = .ok (.iload 4, 2) := by decide +kernel
theorem dX12_exchange_153 : decode cX12_exchange 153 = .ok (.aload_n 0, 1) := by decide +kernel
theorem dX12_exchange_154 : decode cX12_exchange 154 = .ok (.getfield 9, 3) := by decide +kernel
theorem dX12_exchange_157 : decode cX12_exchange 157 = .ok (.bipush 37, 2) := by decide +kernel
theorem dX12_exchange_159 : decode cX12_exchange 159 = .ok (.iaload, 1) := by decide +kernel
theorem dX12_exchange_160 : decode cX12_exchange 160 = .ok (.if_icmp .ge 41, 3) := by decide +kernel
theorem dX12_exchange_163 : decode cX12_exchange 163 = .ok (.iload_n 3, 1) := by decide +kernel
theorem dX12_exchange_164 : decode cX12_exchange 164 = .ok (.aload_n 0, 1) := by decide +kernel
theorem dX12_exchange_165 : decode cX12_exchange 165 = .ok (.getfield 41, 3) := by decide +kernel
theorem dX12_exchange_168 : decode cX12_exchange 168 = .ok (.bipush 9, 2) := by decide +kernel
theorem dX12_exchange_170 : decode cX12_exchange 170 = .ok (.iload 4, 2) := by decide +kernel
theorem dX12_exchange_172 : decode cX12_exchange 172 = .ok (.imul, 1) := by decide +kernel
theorem dX12_exchange_173 : decode cX12_exchange 173 = .ok (.aload_n 0, 1) := by decide +kernel
theorem dX12_exchange_174 : decode cX12_exchange 174 = .ok (.getfield 44, 3) := by decide +kernel
theorem dX12_exchange_177 : decode cX12_exchange 177 = .ok (.bipush 9, 2) := by decide +kernel
theorem dX12_exchange_179 : decode cX12_exchange 179 = .ok (.iload 4, 2) := by decide +kernel
theorem dX12_exchange_181 : decode cX12_exchange 181 = .ok (.imul, 1) := by decide +kernel
theorem dX12_exchange_182 : decode cX12_exchange 182 = .ok (.invokestatic 114, 3) := by decide +kernel
theorem dX12_exchange_185 : decode cX12_exchange 185 = .ok (.ifCond .eq 7, 3) := by decide +kernel
theorem dX12_exchange_188 : decode cX12_exchange 188 = .ok (.iconst 0, 1) := by decide +kernel
theorem dX12_exchange_189 : decode cX12_exchange 189 = .ok (.goto 4, 3) := by decide +kernel
theorem dX12_exchange_192 : decode cX12_exchange 192 = .ok (.iconst 1, 1) := by decide +kernel
theorem dX12_exchange_193 : decode cX12_exchange 193 = .ok (.iadd, 1) := by decide +kernel
theorem dX12_exchange_194 : decode cX12_exchange 194 = .ok (.istore_n 3, 1) := by decide +kernel
theorem dX12_exchange_195 : decode cX12_exchange 195 = .ok (.iinc 4 1, 3) := by decide +kernel
theorem dX12_exchange_198 : decode cX12_exchange 198 = .ok (.goto (-47), 3) := by decide +kernel
theorem dX12_exchange_201 : decode cX12_exchange 201 = .ok (.iload_n 3, 1) := by decide +kernel
theorem dX12_exchange_202 : decode cX12_exchange 202 = .ok (.ireturn, 1) := by decide +kernel
set_option maxRecDepth 20000 in
theorem ggX12_removeRule_X12_isRule : GoodIn wsX12_removeRule wsX12_isRule := goodIn_ca (goodIn_r _ [7, 2, 8, 9, 6, 10, 21, 22, 23, 24, 25, 26, 27, 28, 29, 30, 31, 32, 33, 34, 35, 36, 37, 38, 39, 40, 41, 42, 43, 44, 45, 46, 47] (by decide +kernel) (by decide +kernel)) (goodIn_sub (fun _ h => List.mem_cons_of_mem _ (List.mem_append_right _ h)) (by decide +kernel))
set_option maxRecDepth 20000 in
theorem gX12_removeRule_X12_isRule : GoodIn wsX12_removeRule (wsV RX12 224 RX12 yX12_isRule wsX12_isRule) := goodIn_app (goodIn_of _ (by decide +kernel)) ggX12_removeRule_X12_isRule
set_option maxRecDepth 20000 in
theorem ggX12_removeRule_X12_keep : GoodIn wsX12_removeRule wsX12_keep := goodIn_ca (goodIn_r _ [14, 2, 15, 16, 17, 6, 18, 19, 20, 21, 22, 23, 24, 25, 26, 27, 28, 29, 30, 31, 32, 33, 34, 35, 36, 37, 38, 39, 40, 41, 42, 43, 44, 45, 46, 47] (by decide +kernel) (by decide +kernel)) (goodIn_sub (fun _ h => List.mem_cons_of_mem _ (List.mem_append_right _ h)) (by decide +kernel))
set_option maxRecDepth 20000 in
theorem gX12_removeRule_X12_keep : GoodIn wsX12_removeRule (wsV RX12 90 RX12 yX12_keep wsX12_keep) := goodIn_app (goodIn_of _ (by decide +kernel)) ggX12_removeRule_X12_keep
theorem dX12_removeRule_0 : decode cX12_removeRule 0 = .ok (.aload_n 0, 1) := by decide +kernel
theorem dX12_removeRule_1 : decode cX12_removeRule 1 = .ok (.aload_n 0, 1) := by decide +kernel
theorem dX12_removeRule_2 : decode cX12_removeRule 2 = .ok (.iload_n 1, 1) := by decide +kernel
theorem dX12_removeRule_3 : decode cX12_removeRule 3 = .ok (.invokevirtual 224, 3) := by decide +kernel
theorem dX12_removeRule_6 : decode cX12_removeRule 6 = .ok (.ifCond .eq 7, 3) := by decide +kernel
theorem dX12_removeRule_9 : decode cX12_removeRule 9 = .ok (.iconst 0, 1) := by decide +kernel
theorem dX12_removeRule_10 : decode cX12_removeRule 10 = .ok (.goto 4, 3) := by decide +kernel
theorem dX12_removeRule_13 : decode cX12_removeRule 13 = .ok (.iconst 1, 1) := by decide +kernel
theorem dX12_removeRule_14 : decode cX12_removeRule 14 = .ok (.putfield 62, 3) := by decide +kernel
theorem dX12_removeRule_17 : decode cX12_removeRule 17 = .ok (.aload_n 0, 1) := by decide +kernel
theorem dX12_removeRule_18 : decode cX12_removeRule 18 = .ok (.getfield 62, 3) := by decide +kernel
theorem dX12_removeRule_21 : decode cX12_removeRule 21 = .ok (.ifCond .le 5, 3) := by decide +kernel
theorem dX12_removeRule_24 : decode cX12_removeRule 24 = .ok (.iconst 0, 1) := by decide +kernel
theorem dX12_removeRule_25 : decode cX12_removeRule 25 = .ok (.ireturn, 1) := by decide +kernel
theorem dX12_removeRule_26 : decode cX12_removeRule 26 = .ok (.aload_n 0, 1) := by decide +kernel
theorem dX12_removeRule_27 : decode cX12_removeRule 27 = .ok (.invokevirtual 90, 3) := by decide +kernel
theorem dX12_removeRule_30 : decode cX12_removeRule 30 = .ok (.aload_n 0, 1) := by decide +kernel
theorem dX12_removeRule_31 : decode cX12_removeRule 31 = .ok (.getfield 9, 3) := by decide +kernel
theorem dX12_removeRule_34 : decode cX12_removeRule 34 = .ok (.sipush 1158, 3) := by decide +kernel
theorem dX12_removeRule_37 : decode cX12_removeRule 37 = .ok (.dup2, 1) := by decide +kernel
theorem dX12_removeRule_38 : decode cX12_removeRule 38 = .ok (.iaload, 1) := by decide +kernel
theorem dX12_removeRule_39 : decode cX12_removeRule 39 = .ok (.iconst 1, 1) := by decide +kernel
theorem dX12_removeRule_40 : decode cX12_removeRule 40 = .ok (.isub, 1) := by decide +kernel
theorem dX12_removeRule_41 : decode cX12_removeRule 41 = .ok (.iastore, 1) := by decide +kernel
theorem dX12_removeRule_42 : decode cX12_removeRule 42 = .ok (.sipush 1159, 3) := by decide +kernel
theorem dX12_removeRule_45 : decode cX12_removeRule 45 = .ok (.iconst 4, 1) := by decide +kernel
theorem dX12_removeRule_46 : decode cX12_removeRule 46 = .ok (.iload_n 1, 1) := by decide +kernel
theorem dX12_removeRule_47 : decode cX12_removeRule 47 = .ok (.imul, 1) := by decide +kernel
theorem dX12_removeRule_48 : decode cX12_removeRule 48 = .ok (.iadd, 1) := by decide +kernel
theorem dX12_removeRule_49 : decode cX12_removeRule 49 = .ok (.istore_n 2, 1) := by decide +kernel
theorem dX12_removeRule_50 : decode cX12_removeRule 50 = .ok (.iload_n 2, 1) := by decide +kernel
theorem dX12_removeRule_51 : decode cX12_removeRule 51 = .ok (.sipush 1159, 3) := by decide +kernel
theorem dX12_removeRule_54 : decode cX12_removeRule 54 = .ok (.iconst 4, 1) := by decide +kernel
theorem dX12_removeRule_55 : decode cX12_removeRule 55 = .ok (.aload_n 0, 1) := by decide +kernel
theorem dX12_removeRule_56 : decode cX12_removeRule 56 = .ok (.getfield 9, 3) := by decide +kernel
theorem dX12_removeRule_59 : decode cX12_removeRule 59 = .ok (.sipush 1158, 3) := by decide +kernel
theorem dX12_removeRule_62 : decode cX12_removeRule 62 = .ok (.iaload, 1) := by decide +kernel
theorem dX12_removeRule_63 : decode cX12_removeRule 63 = .ok (.imul, 1) := by decide +kernel
theorem dX12_removeRule_64 : decode cX12_removeRule 64 = .ok (.iadd, 1) := by decide +kernel
theorem dX12_removeRule_65 : decode cX12_removeRule 65 = .ok (.if_icmp .ge 23, 3) := by decide +kernel
theorem dX12_removeRule_68 : decode cX12_removeRule 68 = .ok (.aload_n 0, 1) := by decide +kernel
theorem dX12_removeRule_69 : decode cX12_removeRule 69 = .ok (.getfield 9, 3) := by decide +kernel
theorem dX12_removeRule_72 : decode cX12_removeRule 72 = .ok (.iload_n 2, 1) := by decide +kernel
theorem dX12_removeRule_73 : decode cX12_removeRule 73 = .ok (.aload_n 0, 1) := by decide +kernel
theorem dX12_removeRule_74 : decode cX12_removeRule 74 = .ok (.getfield 9, 3) := by decide +kernel
theorem dX12_removeRule_77 : decode cX12_removeRule 77 = .ok (.iload_n 2, 1) := by decide +kernel
theorem dX12_removeRule_78 : decode cX12_removeRule 78 = .ok (.iconst 4, 1) := by decide +kernel
theorem dX12_removeRule_79 : decode cX12_removeRule 79 = .ok (.iadd, 1) := by decide +kernel
theorem dX12_removeRule_80 : decode cX12_removeRule 80 = .ok (.iaload, 1) := by decide +kernel
theorem dX12_removeRule_81 : decode cX12_removeRule 81 = .ok (.iastore, 1) := by decide +kernel
theorem dX12_removeRule_82 : decode cX12_removeRule 82 = .ok (.iinc 2 1, 3) := by decide +kernel
theorem dX12_removeRule_85 : decode cX12_removeRule 85 = .ok (.goto (-35), 3) := by decide +kernel
theorem dX12_removeRule_88 : decode cX12_removeRule 88 = .ok (.aload_n 0, 1) := by decide +kernel
theorem dX12_removeRule_89 : decode cX12_removeRule 89 = .ok (.getfield 9, 3) := by decide +kernel
theorem dX12_removeRule_92 : decode cX12_removeRule 92 = .ok (.sipush 1158, 3) := by decide +kernel
theorem dX12_removeRule_95 : decode cX12_removeRule 95 = .ok (.iaload, 1) := by decide +kernel
theorem dX12_removeRule_96 : decode cX12_removeRule 96 = .ok (.ireturn, 1) := by decide +kernel
set_option maxRecDepth 20000 in
theorem ggX12_rule_X12_isRule : GoodIn wsX12_rule wsX12_isRule := goodIn_ca (goodIn_r _ [6, 7, 8, 9, 5, 10, 43, 44, 45, 46, 47, 48, 49, 50, 51, 52, 53, 54, 55, 56, 57, 58, 59, 60, 61, 62, 63, 64, 65, 66, 67, 68, 69] (by decide +kernel) (by decide +kernel)) (goodIn_sub (fun _ h => List.mem_cons_of_mem _ (List.mem_append_right _ h)) (by decide +kernel))
set_option maxRecDepth 20000 in
theorem gX12_rule_X12_isRule : GoodIn wsX12_rule (wsV RX12 224 RX12 yX12_isRule wsX12_isRule) := goodIn_app (goodIn_of _ (by decide +kernel)) ggX12_rule_X12_isRule
set_option maxRecDepth 20000 in
theorem ggX12_rule_X12_in : GoodIn wsX12_rule wsX12_in := goodIn_r _ [10] (by decide +kernel) (by decide +kernel)
set_option maxRecDepth 20000 in
theorem gX12_rule_X12_in : GoodIn wsX12_rule (va_wsS RX12 72 yX12_in wsX12_in) := goodIn_app (goodIn_of _ (by decide +kernel)) ggX12_rule_X12_in
set_option maxRecDepth 20000 in
theorem ggX12_rule_X12_placeOf : GoodIn wsX12_rule wsX12_placeOf := goodIn_ca (goodIn_r _ [42, 7, 43, 44, 45, 46, 47, 48, 49, 50, 51, 52, 53, 54, 55, 56, 57, 58, 59, 60, 61, 62, 63, 64, 65, 66, 67, 68, 69] (by decide +kernel) (by decide +kernel)) (goodIn_sub (fun _ h => List.mem_cons_of_mem _ (List.mem_append_right _ h)) (by decide +kernel))
set_option maxRecDepth 20000 in
theorem gX12_rule_X12_placeOf : GoodIn wsX12_rule (wsV RX12 87 RX12 yX12_placeOf wsX12_placeOf) := goodIn_app (goodIn_of _ (by decide +kernel)) ggX12_rule_X12_placeOf
theorem dX12_rule_0 : decode cX12_rule 0 = .ok (.aload_n 0, 1) := by decide +kernel
theorem dX12_rule_1 : decode cX12_rule 1 = .ok (.aload_n 0, 1) := by decide +kernel
theorem dX12_rule_2 : decode cX12_rule 2 = .ok (.iload_n 1, 1) := by decide +kernel
theorem dX12_rule_3 : decode cX12_rule 3 = .ok (.invokevirtual 224, 3) := by decide +kernel
theorem dX12_rule_6 : decode cX12_rule 6 = .ok (.ifCond .ne 7, 3) := by decide +kernel
theorem dX12_rule_9 : decode cX12_rule 9 = .ok (.iconst 1, 1) := by decide +kernel
theorem dX12_rule_10 : decode cX12_rule 10 = .ok (.goto 17, 3) := by decide +kernel
theorem dX12_rule_13 : decode cX12_rule 13 = .ok (.iload_n 2, 1) := by decide +kernel
theorem dX12_rule_14 : decode cX12_rule 14 = .ok (.iconst 0, 1) := by decide +kernel
theorem dX12_rule_15 : decode cX12_rule 15 = .ok (.iconst 4, 1) := by decide +kernel
theorem dX12_rule_16 : decode cX12_rule 16 = .ok (.invokestatic 72, 3) := by decide +kernel
theorem dX12_rule_19 : decode cX12_rule 19 = .ok (.ifCond .ne 7, 3) := by decide +kernel
theorem dX12_rule_22 : decode cX12_rule 22 = .ok (.iconst 2, 1) := by decide +kernel
theorem dX12_rule_23 : decode cX12_rule 23 = .ok (.goto 4, 3) := by decide +kernel
theorem dX12_rule_26 : decode cX12_rule 26 = .ok (.iconst 0, 1) := by decide +kernel
theorem dX12_rule_27 : decode cX12_rule 27 = .ok (.putfield 62, 3) := by decide +kernel
theorem dX12_rule_30 : decode cX12_rule 30 = .ok (.aload_n 0, 1) := by decide +kernel
theorem dX12_rule_31 : decode cX12_rule 31 = .ok (.getfield 62, 3) := by decide +kernel
theorem dX12_rule_34 : decode cX12_rule 34 = .ok (.ifCond .le 5, 3) := by decide +kernel
theorem dX12_rule_37 : decode cX12_rule 37 = .ok (.iconst 0, 1) := by decide +kernel
theorem dX12_rule_38 : decode cX12_rule 38 = .ok (.ireturn, 1) := by decide +kernel
theorem dX12_rule_39 : decode cX12_rule 39 = .ok (.iload_n 2, 1) := by decide +kernel
theorem dX12_rule_40 : decode cX12_rule 40 = .ok (.iconst 4, 1) := by decide +kernel
theorem dX12_rule_41 : decode cX12_rule 41 = .ok (.if_icmp .ne 11, 3) := by decide +kernel
theorem dX12_rule_44 : decode cX12_rule 44 = .ok (.aload_n 0, 1) := by decide +kernel
theorem dX12_rule_45 : decode cX12_rule 45 = .ok (.iload_n 1, 1) := by decide +kernel
theorem dX12_rule_46 : decode cX12_rule 46 = .ok (.invokevirtual 230, 3) := by decide +kernel
theorem dX12_rule_49 : decode cX12_rule 49 = .ok (.goto 27, 3) := by decide +kernel
theorem dX12_rule_52 : decode cX12_rule 52 = .ok (.iload_n 2, 1) := by decide +kernel
theorem dX12_rule_53 : decode cX12_rule 53 = .ok (.iconst 2, 1) := by decide +kernel
theorem dX12_rule_54 : decode cX12_rule 54 = .ok (.if_icmp .ge 16, 3) := by decide +kernel
theorem dX12_rule_57 : decode cX12_rule 57 = .ok (.aload_n 0, 1) := by decide +kernel
theorem dX12_rule_58 : decode cX12_rule 58 = .ok (.aload_n 0, 1) := by decide +kernel
theorem dX12_rule_59 : decode cX12_rule 59 = .ok (.iload_n 1, 1) := by decide +kernel
theorem dX12_rule_60 : decode cX12_rule 60 = .ok (.iload_n 2, 1) := by decide +kernel
theorem dX12_rule_61 : decode cX12_rule 61 = .ok (.invokevirtual 209, 3) := by decide +kernel
theorem dX12_rule_64 : decode cX12_rule 64 = .ok (.invokevirtual 87, 3) := by decide +kernel
theorem dX12_rule_67 : decode cX12_rule 67 = .ok (.goto 9, 3) := by decide +kernel
theorem dX12_rule_70 : decode cX12_rule 70 = .ok (.aload_n 0, 1) := by decide +kernel
theorem dX12_rule_71 : decode cX12_rule 71 = .ok (.iload_n 1, 1) := by decide +kernel
theorem dX12_rule_72 : decode cX12_rule 72 = .ok (.iload_n 2, 1) := by decide +kernel
theorem dX12_rule_73 : decode cX12_rule 73 = .ok (.invokevirtual 209, 3) := by decide +kernel
theorem dX12_rule_76 : decode cX12_rule 76 = .ok (.ireturn, 1) := by decide +kernel
set_option maxRecDepth 20000 in
theorem ggX12_lacksForm_X12_isHead : GoodIn wsX12_lacksForm wsX12_isHead := goodIn_ca (goodIn_r _ [5, 6, 7, 8, 4, 9, 21, 22, 23, 24, 25, 26, 27, 28, 29, 30, 31, 32, 33, 34, 35, 36, 37, 38, 39, 40, 41, 42, 43, 44, 45, 46, 47] (by decide +kernel) (by decide +kernel)) (goodIn_sub (fun _ h => List.mem_cons_of_mem _ (List.mem_append_right _ h)) (by decide +kernel))
set_option maxRecDepth 20000 in
theorem gX12_lacksForm_X12_isHead : GoodIn wsX12_lacksForm (wsV RX12 168 RX12 yX12_isHead wsX12_isHead) := goodIn_app (goodIn_of _ (by decide +kernel)) ggX12_lacksForm_X12_isHead
theorem dX12_lacksForm_0 : decode cX12_lacksForm 0 = .ok (.aload_n 0, 1) := by decide +kernel
theorem dX12_lacksForm_1 : decode cX12_lacksForm 1 = .ok (.iload_n 1, 1) := by decide +kernel
theorem dX12_lacksForm_2 : decode cX12_lacksForm 2 = .ok (.invokevirtual 168, 3) := by decide +kernel
theorem dX12_lacksForm_5 : decode cX12_lacksForm 5 = .ok (.ifCond .ne 7, 3) := by decide +kernel
theorem dX12_lacksForm_8 : decode cX12_lacksForm 8 = .ok (.iconst 1, 1) := by decide +kernel
theorem dX12_lacksForm_9 : decode cX12_lacksForm 9 = .ok (.goto 17, 3) := by decide +kernel
theorem dX12_lacksForm_12 : decode cX12_lacksForm 12 = .ok (.aload_n 0, 1) := by decide +kernel
theorem dX12_lacksForm_13 : decode cX12_lacksForm 13 = .ok (.iload_n 1, 1) := by decide +kernel
theorem dX12_lacksForm_14 : decode cX12_lacksForm 14 = .ok (.iload_n 2, 1) := by decide +kernel
theorem dX12_lacksForm_15 : decode cX12_lacksForm 15 = .ok (.invokevirtual 194, 3) := by decide +kernel
theorem dX12_lacksForm_18 : decode cX12_lacksForm 18 = .ok (.ifCond .ne 7, 3) := by decide +kernel
theorem dX12_lacksForm_21 : decode cX12_lacksForm 21 = .ok (.iconst 2, 1) := by decide +kernel
theorem dX12_lacksForm_22 : decode cX12_lacksForm 22 = .ok (.goto 4, 3) := by decide +kernel
theorem dX12_lacksForm_25 : decode cX12_lacksForm 25 = .ok (.iconst 0, 1) := by decide +kernel
theorem dX12_lacksForm_26 : decode cX12_lacksForm 26 = .ok (.ireturn, 1) := by decide +kernel
set_option maxRecDepth 20000 in
theorem ggX12_derived_X12_lacksForm : GoodIn wsX12_derived wsX12_lacksForm := goodIn_ca (goodIn_r _ [8, 9, 10, 11, 7, 12, 13, 14, 15, 16, 17, 18, 19, 20, 21, 22, 23, 24, 25, 26, 27, 58, 59, 60, 61, 62, 63, 64, 65, 66, 67, 68, 69, 70, 71, 72, 73, 74, 75, 76, 77, 78, 79, 80, 81, 82, 83, 84] (by decide +kernel) (by decide +kernel)) (goodIn_sub (fun _ h => List.mem_cons_of_mem _ (List.mem_append_right _ h)) (by decide +kernel))
set_option maxRecDepth 20000 in
theorem gX12_derived_X12_lacksForm : GoodIn wsX12_derived (wsV RX12 233 RX12 yX12_lacksForm wsX12_lacksForm) := goodIn_app (goodIn_of _ (by decide +kernel)) ggX12_derived_X12_lacksForm
set_option maxRecDepth 20000 in
theorem ggX12_derived_X12_in : GoodIn wsX12_derived wsX12_in := goodIn_r _ [16] (by decide +kernel) (by decide +kernel)
set_option maxRecDepth 20000 in
theorem gX12_derived_X12_in : GoodIn wsX12_derived (va_wsS RX12 72 yX12_in wsX12_in) := goodIn_app (goodIn_of _ (by decide +kernel)) ggX12_derived_X12_in
set_option maxRecDepth 20000 in
theorem ggX12_derived_X12_refuse : GoodIn wsX12_derived wsX12_refuse := goodIn_r _ [53, 1, 58, 59, 60, 61, 62, 63, 64, 65, 66, 67, 68, 69, 70, 71, 72, 73, 74, 75, 76, 77, 78, 79, 80, 81, 82, 83, 84] (by decide +kernel) (by decide +kernel)
set_option maxRecDepth 20000 in
theorem gX12_derived_X12_refuse : GoodIn wsX12_derived (wsV RX12 79 RX12 yX12_refuse wsX12_refuse) := goodIn_app (goodIn_of _ (by decide +kernel)) ggX12_derived_X12_refuse
set_option maxRecDepth 20000 in
theorem ggX12_derived_X12_placeOf : GoodIn wsX12_derived wsX12_placeOf := goodIn_ca (goodIn_r _ [57, 13, 58, 59, 60, 61, 62, 63, 64, 65, 66, 67, 68, 69, 70, 71, 72, 73, 74, 75, 76, 77, 78, 79, 80, 81, 82, 83, 84] (by decide +kernel) (by decide +kernel)) (goodIn_sub (fun _ h => List.mem_cons_of_mem _ (List.mem_append_right _ h)) (by decide +kernel))
set_option maxRecDepth 20000 in
theorem gX12_derived_X12_placeOf : GoodIn wsX12_derived (wsV RX12 87 RX12 yX12_placeOf wsX12_placeOf) := goodIn_app (goodIn_of _ (by decide +kernel)) ggX12_derived_X12_placeOf
theorem dX12_derived_0 : decode cX12_derived 0 = .ok (.aload_n 0, 1) := by decide +kernel
theorem dX12_derived_1 : decode cX12_derived 1 = .ok (.aload_n 0, 1) := by decide +kernel
theorem dX12_derived_2 : decode cX12_derived 2 = .ok (.iload_n 1, 1) := by decide +kernel
theorem dX12_derived_3 : decode cX12_derived 3 = .ok (.iload_n 2, 1) := by decide +kernel
theorem dX12_derived_4 : decode cX12_derived 4 = .ok (.invokevirtual 233, 3) := by decide +kernel
theorem dX12_derived_7 : decode cX12_derived 7 = .ok (.putfield 62, 3) := by decide +kernel
theorem dX12_derived_10 : decode cX12_derived 10 = .ok (.aload_n 0, 1) := by decide +kernel
theorem dX12_derived_11 : decode cX12_derived 11 = .ok (.getfield 62, 3) := by decide +kernel
theorem dX12_derived_14 : decode cX12_derived 14 = .ok (.ifCond .le 5, 3) := by decide +kernel
theorem dX12_derived_17 : decode cX12_derived 17 = .ok (.iconst 0, 1) := by decide +kernel
theorem dX12_derived_18 : decode cX12_derived 18 = .ok (.ireturn, 1) := by decide +kernel
theorem dX12_derived_19 : decode cX12_derived 19 = .ok (.aload_n 0, 1) := by decide +kernel
theorem dX12_derived_20 : decode cX12_derived 20 = .ok (.iload_n 1, 1) := by decide +kernel
theorem dX12_derived_21 : decode cX12_derived 21 = .ok (.iconst 1, 1) := by decide +kernel
theorem dX12_derived_22 : decode cX12_derived 22 = .ok (.iload_n 2, 1) := by decide +kernel
theorem dX12_derived_23 : decode cX12_derived 23 = .ok (.iadd, 1) := by decide +kernel
theorem dX12_derived_24 : decode cX12_derived 24 = .ok (.invokevirtual 218, 3) := by decide +kernel
theorem dX12_derived_27 : decode cX12_derived 27 = .ok (.iload_n 3, 1) := by decide +kernel
theorem dX12_derived_28 : decode cX12_derived 28 = .ok (.iconst (-1), 1) := by decide +kernel
theorem dX12_derived_29 : decode cX12_derived 29 = .ok (.if_icmp .ne 8, 3) := by decide +kernel
theorem dX12_derived_32 : decode cX12_derived 32 = .ok (.aload_n 0, 1) := by decide +kernel
theorem dX12_derived_33 : decode cX12_derived 33 = .ok (.getfield 206, 3) := by decide +kernel
theorem dX12_derived_36 : decode cX12_derived 36 = .ok (.ireturn, 1) := by decide +kernel
theorem dX12_derived_37 : decode cX12_derived 37 = .ok (.iload_n 3, 1) := by decide +kernel
theorem dX12_derived_38 : decode cX12_derived 38 = .ok (.iconst 0, 1) := by decide +kernel
theorem dX12_derived_39 : decode cX12_derived 39 = .ok (.aload_n 0, 1) := by decide +kernel
theorem dX12_derived_40 : decode cX12_derived 40 = .ok (.getfield 206, 3) := by decide +kernel
theorem dX12_derived_43 : decode cX12_derived 43 = .ok (.iconst 1, 1) := by decide +kernel
theorem dX12_derived_44 : decode cX12_derived 44 = .ok (.isub, 1) := by decide +kernel
theorem dX12_derived_45 : decode cX12_derived 45 = .ok (.invokestatic 72, 3) := by decide +kernel
theorem dX12_derived_48 : decode cX12_derived 48 = .ok (.ifCond .eq 23, 3) := by decide +kernel
theorem dX12_derived_51 : decode cX12_derived 51 = .ok (.iload 4, 2) := by decide +kernel
theorem dX12_derived_53 : decode cX12_derived 53 = .ok (.iconst (-1), 1) := by decide +kernel
theorem dX12_derived_54 : decode cX12_derived 54 = .ok (.aload_n 0, 1) := by decide +kernel
theorem dX12_derived_55 : decode cX12_derived 55 = .ok (.getfield 35, 3) := by decide +kernel
theorem dX12_derived_58 : decode cX12_derived 58 = .ok (.bipush 9, 2) := by decide +kernel
theorem dX12_derived_60 : decode cX12_derived 60 = .ok (.iload_n 3, 1) := by decide +kernel
theorem dX12_derived_61 : decode cX12_derived 61 = .ok (.imul, 1) := by decide +kernel
theorem dX12_derived_62 : decode cX12_derived 62 = .ok (.iaload, 1) := by decide +kernel
theorem dX12_derived_63 : decode cX12_derived 63 = .ok (.iconst 1, 1) := by decide +kernel
theorem dX12_derived_64 : decode cX12_derived 64 = .ok (.isub, 1) := by decide +kernel
theorem dX12_derived_65 : decode cX12_derived 65 = .ok (.invokestatic 72, 3) := by decide +kernel
theorem dX12_derived_68 : decode cX12_derived 68 = .ok (.ifCond .ne 9, 3) := by decide +kernel
theorem dX12_derived_71 : decode cX12_derived 71 = .ok (.aload_n 0, 1) := by decide +kernel
theorem dX12_derived_72 : decode cX12_derived 72 = .ok (.iconst 2, 1) := by decide +kernel
theorem dX12_derived_73 : decode cX12_derived 73 = .ok (.invokevirtual 79, 3) := by decide +kernel
theorem dX12_derived_76 : decode cX12_derived 76 = .ok (.ireturn, 1) := by decide +kernel
theorem dX12_derived_77 : decode cX12_derived 77 = .ok (.iload 4, 2) := by decide +kernel
theorem dX12_derived_79 : decode cX12_derived 79 = .ok (.iconst (-1), 1) := by decide +kernel
theorem dX12_derived_80 : decode cX12_derived 80 = .ok (.if_icmp .ne 15, 3) := by decide +kernel
theorem dX12_derived_83 : decode cX12_derived 83 = .ok (.aload_n 0, 1) := by decide +kernel
theorem dX12_derived_84 : decode cX12_derived 84 = .ok (.getfield 35, 3) := by decide +kernel
theorem dX12_derived_87 : decode cX12_derived 87 = .ok (.bipush 9, 2) := by decide +kernel
theorem dX12_derived_89 : decode cX12_derived 89 = .ok (.iload_n 3, 1) := by decide +kernel
theorem dX12_derived_90 : decode cX12_derived 90 = .ok (.imul, 1) := by decide +kernel
theorem dX12_derived_91 : decode cX12_derived 91 = .ok (.iaload, 1) := by decide +kernel
theorem dX12_derived_92 : decode cX12_derived 92 = .ok (.goto 21, 3) := by decide +kernel
theorem dX12_derived_95 : decode cX12_derived 95 = .ok (.aload_n 0, 1) := by decide +kernel
theorem dX12_derived_96 : decode cX12_derived 96 = .ok (.aload_n 0, 1) := by decide +kernel
theorem dX12_derived_97 : decode cX12_derived 97 = .ok (.getfield 35, 3) := by decide +kernel
theorem dX12_derived_100 : decode cX12_derived 100 = .ok (.bipush 9, 2) := by decide +kernel
theorem dX12_derived_102 : decode cX12_derived 102 = .ok (.iload_n 3, 1) := by decide +kernel
theorem dX12_derived_103 : decode cX12_derived 103 = .ok (.imul, 1) := by decide +kernel
theorem dX12_derived_104 : decode cX12_derived 104 = .ok (.iconst 1, 1) := by decide +kernel
theorem dX12_derived_105 : decode cX12_derived 105 = .ok (.iadd, 1) := by decide +kernel
theorem dX12_derived_106 : decode cX12_derived 106 = .ok (.iload 4, 2) := by decide +kernel
theorem dX12_derived_108 : decode cX12_derived 108 = .ok (.iadd, 1) := by decide +kernel
theorem dX12_derived_109 : decode cX12_derived 109 = .ok (.iaload, 1) := by decide +kernel
theorem dX12_derived_110 : decode cX12_derived 110 = .ok (.invokevirtual 87, 3) := by decide +kernel
theorem dX12_derived_113 : decode cX12_derived 113 = .ok (.ireturn, 1) := by decide +kernel
set_option maxRecDepth 20000 in
theorem ggX12_by_X12_lacksForm : GoodIn wsX12_by wsX12_lacksForm := goodIn_ca (goodIn_r _ [8, 9, 10, 11, 7, 12, 13, 14, 15, 16, 17, 18, 19, 20, 21, 22, 23, 24, 25, 26, 27, 54, 55, 56, 57, 58, 59, 60, 61, 62, 63, 64, 65, 66, 67, 68, 69, 70, 71, 72, 73, 74, 75, 76, 77, 78, 79, 80] (by decide +kernel) (by decide +kernel)) (goodIn_sub (fun _ h => List.mem_cons_of_mem _ (List.mem_append_right _ h)) (by decide +kernel))
set_option maxRecDepth 20000 in
theorem gX12_by_X12_lacksForm : GoodIn wsX12_by (wsV RX12 233 RX12 yX12_lacksForm wsX12_lacksForm) := goodIn_app (goodIn_of _ (by decide +kernel)) ggX12_by_X12_lacksForm
set_option maxRecDepth 20000 in
theorem ggX12_by_X12_in : GoodIn wsX12_by wsX12_in := goodIn_r _ [16] (by decide +kernel) (by decide +kernel)
set_option maxRecDepth 20000 in
theorem gX12_by_X12_in : GoodIn wsX12_by (va_wsS RX12 72 yX12_in wsX12_in) := goodIn_app (goodIn_of _ (by decide +kernel)) ggX12_by_X12_in
set_option maxRecDepth 20000 in
theorem ggX12_by_X12_refuse : GoodIn wsX12_by wsX12_refuse := goodIn_r _ [53, 1, 54, 55, 56, 57, 58, 59, 60, 61, 62, 63, 64, 65, 66, 67, 68, 69, 70, 71, 72, 73, 74, 75, 76, 77, 78, 79, 80] (by decide +kernel) (by decide +kernel)
set_option maxRecDepth 20000 in
theorem gX12_by_X12_refuse : GoodIn wsX12_by (wsV RX12 79 RX12 yX12_refuse wsX12_refuse) := goodIn_app (goodIn_of _ (by decide +kernel)) ggX12_by_X12_refuse
theorem dX12_by_0 : decode cX12_by 0 = .ok (.aload_n 0, 1) := by decide +kernel
theorem dX12_by_1 : decode cX12_by 1 = .ok (.aload_n 0, 1) := by decide +kernel
theorem dX12_by_2 : decode cX12_by 2 = .ok (.iload_n 1, 1) := by decide +kernel
theorem dX12_by_3 : decode cX12_by 3 = .ok (.iload_n 2, 1) := by decide +kernel
theorem dX12_by_4 : decode cX12_by 4 = .ok (.invokevirtual 233, 3) := by decide +kernel
theorem dX12_by_7 : decode cX12_by 7 = .ok (.putfield 62, 3) := by decide +kernel
theorem dX12_by_10 : decode cX12_by 10 = .ok (.aload_n 0, 1) := by decide +kernel
theorem dX12_by_11 : decode cX12_by 11 = .ok (.getfield 62, 3) := by decide +kernel
theorem dX12_by_14 : decode cX12_by 14 = .ok (.ifCond .le 5, 3) := by decide +kernel
theorem dX12_by_17 : decode cX12_by 17 = .ok (.iconst 0, 1) := by decide +kernel
theorem dX12_by_18 : decode cX12_by 18 = .ok (.ireturn, 1) := by decide +kernel
theorem dX12_by_19 : decode cX12_by 19 = .ok (.aload_n 0, 1) := by decide +kernel
theorem dX12_by_20 : decode cX12_by 20 = .ok (.iload_n 1, 1) := by decide +kernel
theorem dX12_by_21 : decode cX12_by 21 = .ok (.iconst 1, 1) := by decide +kernel
theorem dX12_by_22 : decode cX12_by 22 = .ok (.iload_n 2, 1) := by decide +kernel
theorem dX12_by_23 : decode cX12_by 23 = .ok (.iadd, 1) := by decide +kernel
theorem dX12_by_24 : decode cX12_by 24 = .ok (.invokevirtual 218, 3) := by decide +kernel
theorem dX12_by_27 : decode cX12_by 27 = .ok (.iload_n 3, 1) := by decide +kernel
theorem dX12_by_28 : decode cX12_by 28 = .ok (.iconst 1, 1) := by decide +kernel
theorem dX12_by_29 : decode cX12_by 29 = .ok (.aload_n 0, 1) := by decide +kernel
theorem dX12_by_30 : decode cX12_by 30 = .ok (.getfield 206, 3) := by decide +kernel
theorem dX12_by_33 : decode cX12_by 33 = .ok (.iconst 1, 1) := by decide +kernel
theorem dX12_by_34 : decode cX12_by 34 = .ok (.isub, 1) := by decide +kernel
theorem dX12_by_35 : decode cX12_by 35 = .ok (.invokestatic 72, 3) := by decide +kernel
theorem dX12_by_38 : decode cX12_by 38 = .ok (.ifCond .eq 12, 3) := by decide +kernel
theorem dX12_by_41 : decode cX12_by 41 = .ok (.aload_n 0, 1) := by decide +kernel
theorem dX12_by_42 : decode cX12_by 42 = .ok (.getfield 38, 3) := by decide +kernel
theorem dX12_by_45 : decode cX12_by 45 = .ok (.iload_n 3, 1) := by decide +kernel
theorem dX12_by_46 : decode cX12_by 46 = .ok (.iaload, 1) := by decide +kernel
theorem dX12_by_47 : decode cX12_by 47 = .ok (.goto 8, 3) := by decide +kernel
theorem dX12_by_50 : decode cX12_by 50 = .ok (.aload_n 0, 1) := by decide +kernel
theorem dX12_by_51 : decode cX12_by 51 = .ok (.iconst 2, 1) := by decide +kernel
theorem dX12_by_52 : decode cX12_by 52 = .ok (.invokevirtual 79, 3) := by decide +kernel
theorem dX12_by_55 : decode cX12_by 55 = .ok (.ireturn, 1) := by decide +kernel
set_option maxRecDepth 20000 in
theorem ggX12_proves_X12_lacksEither : GoodIn wsX12_proves wsX12_lacksEither := goodIn_ca (goodIn_r _ [6, 7, 8, 9, 5, 10, 11, 12, 13, 14, 15, 16, 17, 18, 19, 20, 21, 22, 23, 24, 25, 61, 62, 63, 64, 65, 66, 67, 68, 69, 70, 71, 72, 73, 74, 75, 76, 77, 78, 79, 80, 81, 82, 83, 84, 85, 86, 87] (by decide +kernel) (by decide +kernel)) (goodIn_sub (fun _ h => List.mem_cons_of_mem _ (List.mem_append_right _ h)) (by decide +kernel))
set_option maxRecDepth 20000 in
theorem gX12_proves_X12_lacksEither : GoodIn wsX12_proves (wsV RX12 197 RX12 yX12_lacksEither wsX12_lacksEither) := goodIn_app (goodIn_of _ (by decide +kernel)) ggX12_proves_X12_lacksEither
set_option maxRecDepth 20000 in
theorem ggX12_proves_X12_refuse : GoodIn wsX12_proves wsX12_refuse := goodIn_r _ [60, 1, 61, 62, 63, 64, 65, 66, 67, 68, 69, 70, 71, 72, 73, 74, 75, 76, 77, 78, 79, 80, 81, 82, 83, 84, 85, 86, 87] (by decide +kernel) (by decide +kernel)
set_option maxRecDepth 20000 in
theorem gX12_proves_X12_refuse : GoodIn wsX12_proves (wsV RX12 79 RX12 yX12_refuse wsX12_refuse) := goodIn_app (goodIn_of _ (by decide +kernel)) ggX12_proves_X12_refuse
theorem dX12_proves_0 : decode cX12_proves 0 = .ok (.aload_n 0, 1) := by decide +kernel
theorem dX12_proves_1 : decode cX12_proves 1 = .ok (.aload_n 0, 1) := by decide +kernel
theorem dX12_proves_2 : decode cX12_proves 2 = .ok (.iload_n 1, 1) := by decide +kernel
theorem dX12_proves_3 : decode cX12_proves 3 = .ok (.iload_n 2, 1) := by decide +kernel
theorem dX12_proves_4 : decode cX12_proves 4 = .ok (.iload_n 3, 1) := by decide +kernel
theorem dX12_proves_5 : decode cX12_proves 5 = .ok (.iload 4, 2) := by decide +kernel
theorem dX12_proves_7 : decode cX12_proves 7 = .ok (.invokevirtual 197, 3) := by decide +kernel
theorem dX12_proves_10 : decode cX12_proves 10 = .ok (.putfield 62, 3) := by decide +kernel
theorem dX12_proves_13 : decode cX12_proves 13 = .ok (.aload_n 0, 1) := by decide +kernel
theorem dX12_proves_14 : decode cX12_proves 14 = .ok (.getfield 62, 3) := by decide +kernel
theorem dX12_proves_17 : decode cX12_proves 17 = .ok (.ifCond .le 5, 3) := by decide +kernel
theorem dX12_proves_20 : decode cX12_proves 20 = .ok (.iconst 0, 1) := by decide +kernel
theorem dX12_proves_21 : decode cX12_proves 21 = .ok (.ireturn, 1) := by decide +kernel
theorem dX12_proves_22 : decode cX12_proves 22 = .ok (.aload_n 0, 1) := by decide +kernel
theorem dX12_proves_23 : decode cX12_proves 23 = .ok (.iload_n 1, 1) := by decide +kernel
theorem dX12_proves_24 : decode cX12_proves 24 = .ok (.iconst 1, 1) := by decide +kernel
theorem dX12_proves_25 : decode cX12_proves 25 = .ok (.iload_n 2, 1) := by decide +kernel
theorem dX12_proves_26 : decode cX12_proves 26 = .ok (.iadd, 1) := by decide +kernel
theorem dX12_proves_27 : decode cX12_proves 27 = .ok (.invokevirtual 218, 3) := by decide +kernel
theorem dX12_proves_30 : decode cX12_proves 30 = .ok (.aload_n 0, 1) := by decide +kernel
theorem dX12_proves_31 : decode cX12_proves 31 = .ok (.iload_n 3, 1) := by decide +kernel
theorem dX12_proves_32 : decode cX12_proves 32 = .ok (.iconst 1, 1) := by decide +kernel
theorem dX12_proves_33 : decode cX12_proves 33 = .ok (.iload 4, 2) := by decide +kernel
theorem dX12_proves_35 : decode cX12_proves 35 = .ok (.iadd, 1) := by decide +kernel
theorem dX12_proves_36 : decode cX12_proves 36 = .ok (.invokestatic 111, 3) := by decide +kernel
theorem dX12_proves_39 : decode cX12_proves 39 = .ok (.invokevirtual 221, 3) := by decide +kernel
theorem dX12_proves_42 : decode cX12_proves 42 = .ok (.istore 5, 2) := by decide +kernel
theorem dX12_proves_44 : decode cX12_proves 44 = .ok (.iload 5, 2) := by decide +kernel
theorem dX12_proves_46 : decode cX12_proves 46 = .ok (.ifCond .le 8, 3) := by decide +kernel
theorem dX12_proves_49 : decode cX12_proves 49 = .ok (.iload 5, 2) := by decide +kernel
theorem dX12_proves_51 : decode cX12_proves 51 = .ok (.goto 8, 3) := by decide +kernel
theorem dX12_proves_54 : decode cX12_proves 54 = .ok (.aload_n 0, 1) := by decide +kernel
theorem dX12_proves_55 : decode cX12_proves 55 = .ok (.iconst 2, 1) := by decide +kernel
theorem dX12_proves_56 : decode cX12_proves 56 = .ok (.invokevirtual 79, 3) := by decide +kernel
theorem dX12_proves_59 : decode cX12_proves 59 = .ok (.ireturn, 1) := by decide +kernel
theorem dX12_references_0 : decode cX12_references 0 = .ok (.iconst 0, 1) := by decide +kernel
theorem dX12_references_1 : decode cX12_references 1 = .ok (.istore_n 1, 1) := by decide +kernel
theorem dX12_references_2 : decode cX12_references 2 = .ok (.iconst 0, 1) := by decide +kernel
theorem dX12_references_3 : decode cX12_references 3 = .ok (.istore_n 2, 1) := by decide +kernel
theorem dX12_references_4 : decode cX12_references 4 = .ok (.iload_n 2, 1) := by decide +kernel
theorem dX12_references_5 : decode cX12_references 5 = .ok (.aload_n 0, 1) := by decide +kernel
theorem dX12_references_6 : decode cX12_references 6 = .ok (.getfield 9, 3) := by decide +kernel
theorem dX12_references_9 : decode cX12_references 9 = .ok (.bipush 37, 2) := by decide +kernel
theorem dX12_references_11 : decode cX12_references 11 = .ok (.iaload, 1) := by decide +kernel
theorem dX12_references_12 : decode cX12_references 12 = .ok (.if_icmp .ge 25, 3) := by decide +kernel
theorem dX12_references_15 : decode cX12_references 15 = .ok (.iload_n 1, 1) := by decide +kernel
theorem dX12_references_16 : decode cX12_references 16 = .ok (.aload_n 0, 1) := by decide +kernel
theorem dX12_references_17 : decode cX12_references 17 = .ok (.iload_n 2, 1) := by decide +kernel
theorem dX12_references_18 : decode cX12_references 18 = .ok (.invokevirtual 139, 3) := by decide +kernel
theorem dX12_references_21 : decode cX12_references 21 = .ok (.ifCond .lt 7, 3) := by decide +kernel
theorem dX12_references_24 : decode cX12_references 24 = .ok (.iconst 1, 1) := by decide +kernel
theorem dX12_references_25 : decode cX12_references 25 = .ok (.goto 4, 3) := by decide +kernel
theorem dX12_references_28 : decode cX12_references 28 = .ok (.iconst 0, 1) := by decide +kernel
theorem dX12_references_29 : decode cX12_references 29 = .ok (.iadd, 1) := by decide +kernel
theorem dX12_references_30 : decode cX12_references 30 = .ok (.istore_n 1, 1) := by decide +kernel
theorem dX12_references_31 : decode cX12_references 31 = .ok (.iinc 2 1, 3) := by decide +kernel
theorem dX12_references_34 : decode cX12_references 34 = .ok (.goto (-30), 3) := by decide +kernel
theorem dX12_references_37 : decode cX12_references 37 = .ok (.iload_n 1, 1) := by decide +kernel
theorem dX12_references_38 : decode cX12_references 38 = .ok (.ireturn, 1) := by decide +kernel
theorem dX12_allLetters_0 : decode cX12_allLetters 0 = .ok (.iconst 0, 1) := by decide +kernel
theorem dX12_allLetters_1 : decode cX12_allLetters 1 = .ok (.istore_n 1, 1) := by decide +kernel
theorem dX12_allLetters_2 : decode cX12_allLetters 2 = .ok (.iconst 0, 1) := by decide +kernel
theorem dX12_allLetters_3 : decode cX12_allLetters 3 = .ok (.istore_n 2, 1) := by decide +kernel
theorem dX12_allLetters_4 : decode cX12_allLetters 4 = .ok (.iload_n 2, 1) := by decide +kernel
theorem dX12_allLetters_5 : decode cX12_allLetters 5 = .ok (.aload_n 0, 1) := by decide +kernel
theorem dX12_allLetters_6 : decode cX12_allLetters 6 = .ok (.getfield 9, 3) := by decide +kernel
theorem dX12_allLetters_9 : decode cX12_allLetters 9 = .ok (.bipush 37, 2) := by decide +kernel
theorem dX12_allLetters_11 : decode cX12_allLetters 11 = .ok (.iaload, 1) := by decide +kernel
theorem dX12_allLetters_12 : decode cX12_allLetters 12 = .ok (.if_icmp .ge 39, 3) := by decide +kernel
theorem dX12_allLetters_15 : decode cX12_allLetters 15 = .ok (.iconst 0, 1) := by decide +kernel
theorem dX12_allLetters_16 : decode cX12_allLetters 16 = .ok (.istore_n 3, 1) := by decide +kernel
theorem dX12_allLetters_17 : decode cX12_allLetters 17 = .ok (.iload_n 3, 1) := by decide +kernel
theorem dX12_allLetters_18 : decode cX12_allLetters 18 = .ok (.aload_n 0, 1) := by decide +kernel
theorem dX12_allLetters_19 : decode cX12_allLetters 19 = .ok (.iload_n 2, 1) := by decide +kernel
theorem dX12_allLetters_20 : decode cX12_allLetters 20 = .ok (.invokevirtual 108, 3) := by decide +kernel
theorem dX12_allLetters_23 : decode cX12_allLetters 23 = .ok (.if_icmp .ge 22, 3) := by decide +kernel
theorem dX12_allLetters_26 : decode cX12_allLetters 26 = .ok (.iload_n 1, 1) := by decide +kernel
theorem dX12_allLetters_27 : decode cX12_allLetters 27 = .ok (.aload_n 0, 1) := by decide +kernel
theorem dX12_allLetters_28 : decode cX12_allLetters 28 = .ok (.getfield 9, 3) := by decide +kernel
theorem dX12_allLetters_31 : decode cX12_allLetters 31 = .ok (.iload_n 2, 1) := by decide +kernel
theorem dX12_allLetters_32 : decode cX12_allLetters 32 = .ok (.iload_n 3, 1) := by decide +kernel
theorem dX12_allLetters_33 : decode cX12_allLetters 33 = .ok (.invokestatic 111, 3) := by decide +kernel
theorem dX12_allLetters_36 : decode cX12_allLetters 36 = .ok (.iaload, 1) := by decide +kernel
theorem dX12_allLetters_37 : decode cX12_allLetters 37 = .ok (.iadd, 1) := by decide +kernel
theorem dX12_allLetters_38 : decode cX12_allLetters 38 = .ok (.istore_n 1, 1) := by decide +kernel
theorem dX12_allLetters_39 : decode cX12_allLetters 39 = .ok (.iinc 3 1, 3) := by decide +kernel
theorem dX12_allLetters_42 : decode cX12_allLetters 42 = .ok (.goto (-25), 3) := by decide +kernel
theorem dX12_allLetters_45 : decode cX12_allLetters 45 = .ok (.iinc 2 1, 3) := by decide +kernel
theorem dX12_allLetters_48 : decode cX12_allLetters 48 = .ok (.goto (-44), 3) := by decide +kernel
theorem dX12_allLetters_51 : decode cX12_allLetters 51 = .ok (.iload_n 1, 1) := by decide +kernel
theorem dX12_allLetters_52 : decode cX12_allLetters 52 = .ok (.ireturn, 1) := by decide +kernel
theorem dX12_alone_0 : decode cX12_alone 0 = .ok (.iconst 0, 1) := by decide +kernel
theorem dX12_alone_1 : decode cX12_alone 1 = .ok (.istore_n 1, 1) := by decide +kernel
theorem dX12_alone_2 : decode cX12_alone 2 = .ok (.iconst 0, 1) := by decide +kernel
theorem dX12_alone_3 : decode cX12_alone 3 = .ok (.istore_n 2, 1) := by decide +kernel
theorem dX12_alone_4 : decode cX12_alone 4 = .ok (.iload_n 2, 1) := by decide +kernel
theorem dX12_alone_5 : decode cX12_alone 5 = .ok (.aload_n 0, 1) := by decide +kernel
theorem dX12_alone_6 : decode cX12_alone 6 = .ok (.getfield 9, 3) := by decide +kernel
theorem dX12_alone_9 : decode cX12_alone 9 = .ok (.bipush 37, 2) := by decide +kernel
theorem dX12_alone_11 : decode cX12_alone 11 = .ok (.iaload, 1) := by decide +kernel
theorem dX12_alone_12 : decode cX12_alone 12 = .ok (.if_icmp .ge 33, 3) := by decide +kernel
theorem dX12_alone_15 : decode cX12_alone 15 = .ok (.iload_n 1, 1) := by decide +kernel
theorem dX12_alone_16 : decode cX12_alone 16 = .ok (.aload_n 0, 1) := by decide +kernel
theorem dX12_alone_17 : decode cX12_alone 17 = .ok (.iload_n 2, 1) := by decide +kernel
theorem dX12_alone_18 : decode cX12_alone 18 = .ok (.invokevirtual 139, 3) := by decide +kernel
theorem dX12_alone_21 : decode cX12_alone 21 = .ok (.ifCond .ge 15, 3) := by decide +kernel
theorem dX12_alone_24 : decode cX12_alone 24 = .ok (.aload_n 0, 1) := by decide +kernel
theorem dX12_alone_25 : decode cX12_alone 25 = .ok (.iload_n 2, 1) := by decide +kernel
theorem dX12_alone_26 : decode cX12_alone 26 = .ok (.invokevirtual 178, 3) := by decide +kernel
theorem dX12_alone_29 : decode cX12_alone 29 = .ok (.ifCond .ne 7, 3) := by decide +kernel
theorem dX12_alone_32 : decode cX12_alone 32 = .ok (.iconst 1, 1) := by decide +kernel
theorem dX12_alone_33 : decode cX12_alone 33 = .ok (.goto 4, 3) := by decide +kernel
theorem dX12_alone_36 : decode cX12_alone 36 = .ok (.iconst 0, 1) := by decide +kernel
theorem dX12_alone_37 : decode cX12_alone 37 = .ok (.iadd, 1) := by decide +kernel
theorem dX12_alone_38 : decode cX12_alone 38 = .ok (.istore_n 1, 1) := by decide +kernel
theorem dX12_alone_39 : decode cX12_alone 39 = .ok (.iinc 2 1, 3) := by decide +kernel
theorem dX12_alone_42 : decode cX12_alone 42 = .ok (.goto (-38), 3) := by decide +kernel
theorem dX12_alone_45 : decode cX12_alone 45 = .ok (.iload_n 1, 1) := by decide +kernel
theorem dX12_alone_46 : decode cX12_alone 46 = .ok (.ireturn, 1) := by decide +kernel
set_option maxRecDepth 20000 in
theorem ggX12_results_X12_layResults : GoodIn wsX12_results wsX12_layResults := goodIn_ca (goodIn_r _ [7, 1, 8, 9, 2, 10, 11, 12, 6, 13, 14, 15, 16, 17, 18, 19, 20, 21, 22, 23, 24, 25, 26, 27, 28, 29, 30, 31, 35, 36, 37, 38, 39, 40, 41, 42, 43, 44, 45, 46, 47, 48, 49, 50, 51, 52, 53, 54, 55, 56, 57, 58, 59, 60, 61] (by decide +kernel) (by decide +kernel)) (goodIn_sub (fun _ h => List.mem_cons_of_mem _ (List.mem_append_right _ h)) (by decide +kernel))
set_option maxRecDepth 20000 in
theorem gX12_results_X12_layResults : GoodIn wsX12_results (wsV RX12 227 RX12 yX12_layResults wsX12_layResults) := goodIn_app (goodIn_of _ (by decide +kernel)) ggX12_results_X12_layResults
theorem dX12_results_0 : decode cX12_results 0 = .ok (.aload_n 0, 1) := by decide +kernel
theorem dX12_results_1 : decode cX12_results 1 = .ok (.invokevirtual 227, 3) := by decide +kernel
theorem dX12_results_4 : decode cX12_results 4 = .ok (.iconst 0, 1) := by decide +kernel
theorem dX12_results_5 : decode cX12_results 5 = .ok (.istore_n 1, 1) := by decide +kernel
theorem dX12_results_6 : decode cX12_results 6 = .ok (.iconst 0, 1) := by decide +kernel
theorem dX12_results_7 : decode cX12_results 7 = .ok (.istore_n 2, 1) := by decide +kernel
theorem dX12_results_8 : decode cX12_results 8 = .ok (.iload_n 2, 1) := by decide +kernel
theorem dX12_results_9 : decode cX12_results 9 = .ok (.aload_n 0, 1) := by decide +kernel
theorem dX12_results_10 : decode cX12_results 10 = .ok (.getfield 9, 3) := by decide +kernel
theorem dX12_results_13 : decode cX12_results 13 = .ok (.bipush 37, 2) := by decide +kernel
theorem dX12_results_15 : decode cX12_results 15 = .ok (.iaload, 1) := by decide +kernel
theorem dX12_results_16 : decode cX12_results 16 = .ok (.if_icmp .ge 69, 3) := by decide +kernel
theorem dX12_results_19 : decode cX12_results 19 = .ok (.iconst 1, 1) := by decide +kernel
theorem dX12_results_20 : decode cX12_results 20 = .ok (.istore_n 3, 1) := by decide +kernel
theorem dX12_results_21 : decode cX12_results 21 = .ok (.iconst 0, 1) := by decide +kernel
theorem dX12_results_22 : decode cX12_results 22 = .ok (.istore 4, 2) := by decide +kernel
theorem dX12_results_24 : decode cX12_results 24 = .ok (.iload 4, 2) := by decide +kernel
theorem dX12_results_26 : decode cX12_results 26 = .ok (.iload_n 2, 1) := by decide +kernel
theorem dX12_results_27 : decode cX12_results 27 = .ok (.if_icmp .ge 40, 3) := by decide +kernel
theorem dX12_results_30 : decode cX12_results 30 = .ok (.iload_n 3, 1) := by decide +kernel
theorem dX12_results_31 : decode cX12_results 31 = .ok (.aload_n 0, 1) := by decide +kernel
theorem dX12_results_32 : decode cX12_results 32 = .ok (.getfield 41, 3) := by decide +kernel
theorem dX12_results_35 : decode cX12_results 35 = .ok (.bipush 9, 2) := by decide +kernel
theorem dX12_results_37 : decode cX12_results 37 = .ok (.iload_n 2, 1) := by decide +kernel
theorem dX12_results_38 : decode cX12_results 38 = .ok (.imul, 1) := by decide +kernel
theorem dX12_results_39 : decode cX12_results 39 = .ok (.aload_n 0, 1) := by decide +kernel
theorem dX12_results_40 : decode cX12_results 40 = .ok (.getfield 41, 3) := by decide +kernel
theorem dX12_results_43 : decode cX12_results 43 = .ok (.bipush 9, 2) := by decide +kernel
theorem dX12_results_45 : decode cX12_results 45 = .ok (.iload 4, 2) := by decide +kernel
theorem dX12_results_47 : decode cX12_results 47 = .ok (.imul, 1) := by decide +kernel
theorem dX12_results_48 : decode cX12_results 48 = .ok (.invokestatic 114, 3) := by decide +kernel
theorem dX12_results_51 : decode cX12_results 51 = .ok (.ifCond .ne 7, 3) := by decide +kernel
theorem dX12_results_54 : decode cX12_results 54 = .ok (.iconst 1, 1) := by decide +kernel
theorem dX12_results_55 : decode cX12_results 55 = .ok (.goto 4, 3) := by decide +kernel
theorem dX12_results_58 : decode cX12_results 58 = .ok (.iconst 0, 1) := by decide +kernel
theorem dX12_results_59 : decode cX12_results 59 = .ok (.iand, 1) := by decide +kernel
theorem dX12_results_60 : decode cX12_results 60 = .ok (.istore_n 3, 1) := by decide +kernel
theorem dX12_results_61 : decode cX12_results 61 = .ok (.iinc 4 1, 3) := by decide +kernel
theorem dX12_results_64 : decode cX12_results 64 = .ok (.goto (-40), 3) := by decide +kernel
theorem dX12_results_67 : decode cX12_results 67 = .ok (.iload_n 1, 1) := by decide +kernel
theorem dX12_results_68 : decode cX12_results 68 = .ok (.iload_n 3, 1) := by decide +kernel
theorem dX12_results_69 : decode cX12_results 69 = .ok (.ifCond .eq 7, 3) := by decide +kernel
theorem dX12_results_72 : decode cX12_results 72 = .ok (.iconst 1, 1) := by decide +kernel
theorem dX12_results_73 : decode cX12_results 73 = .ok (.goto 4, 3) := by decide +kernel
theorem dX12_results_76 : decode cX12_results 76 = .ok (.iconst 0, 1) := by decide +kernel
theorem dX12_results_77 : decode cX12_results 77 = .ok (.iadd, 1) := by decide +kernel
theorem dX12_results_78 : decode cX12_results 78 = .ok (.istore_n 1, 1) := by decide +kernel
theorem dX12_results_79 : decode cX12_results 79 = .ok (.iinc 2 1, 3) := by decide +kernel
theorem dX12_results_82 : decode cX12_results 82 = .ok (.goto (-74), 3) := by decide +kernel
theorem dX12_results_85 : decode cX12_results 85 = .ok (.iload_n 1, 1) := by decide +kernel
theorem dX12_results_86 : decode cX12_results 86 = .ok (.ireturn, 1) := by decide +kernel
set_option maxRecDepth 20000 in
theorem ggX12_account_X12_allForms : GoodIn wsX12_account wsX12_allForms := goodIn_ca (goodIn_r _ [8, 2, 9, 10, 11, 7, 12, 13, 14, 15, 76, 77, 78, 79, 80, 81, 82, 83, 84, 85, 86, 87, 88, 89, 90, 91, 92, 93, 94, 95, 96, 97, 98, 99, 100, 101, 102] (by decide +kernel) (by decide +kernel)) (goodIn_sub (fun _ h => List.mem_cons_of_mem _ (List.mem_append_right _ h)) (by decide +kernel))
set_option maxRecDepth 20000 in
theorem gX12_account_X12_allForms : GoodIn wsX12_account (wsV RX12 132 RX12 yX12_allForms wsX12_allForms) := goodIn_app (goodIn_of _ (by decide +kernel)) ggX12_account_X12_allForms
set_option maxRecDepth 20000 in
theorem ggX12_account_X12_references : GoodIn wsX12_account wsX12_references := goodIn_ca (goodIn_r _ [19, 2, 20, 21, 22, 7, 23, 13, 14, 15, 76, 77, 78, 79, 80, 81, 82, 83, 84, 85, 86, 87, 88, 89, 90, 91, 92, 93, 94, 95, 96, 97, 98, 99, 100, 101, 102] (by decide +kernel) (by decide +kernel)) (goodIn_sub (fun _ h => List.mem_cons_of_mem _ (List.mem_append_right _ h)) (by decide +kernel))
set_option maxRecDepth 20000 in
theorem gX12_account_X12_references : GoodIn wsX12_account (wsV RX12 236 RX12 yX12_references wsX12_references) := goodIn_app (goodIn_of _ (by decide +kernel)) ggX12_account_X12_references
set_option maxRecDepth 20000 in
theorem ggX12_account_X12_allLetters : GoodIn wsX12_account wsX12_allLetters := goodIn_ca (goodIn_r _ [27, 2, 9, 10, 11, 7, 12, 13, 14, 15, 28, 29, 30, 76, 77, 78, 79, 80, 81, 82, 83, 84, 85, 86, 87, 88, 89, 90, 91, 92, 93, 94, 95, 96, 97, 98, 99, 100, 101, 102] (by decide +kernel) (by decide +kernel)) (goodIn_sub (fun _ h => List.mem_cons_of_mem _ (List.mem_append_right _ h)) (by decide +kernel))
set_option maxRecDepth 20000 in
theorem gX12_account_X12_allLetters : GoodIn wsX12_account (wsV RX12 239 RX12 yX12_allLetters wsX12_allLetters) := goodIn_app (goodIn_of _ (by decide +kernel)) ggX12_account_X12_allLetters
set_option maxRecDepth 20000 in
theorem ggX12_account_X12_alone : GoodIn wsX12_account wsX12_alone := goodIn_ca (goodIn_r _ [34, 2, 20, 21, 22, 7, 23, 13, 14, 15, 35, 36, 37, 38, 76, 77, 78, 79, 80, 81, 82, 83, 84, 85, 86, 87, 88, 89, 90, 91, 92, 93, 94, 95, 96, 97, 98, 99, 100, 101, 102] (by decide +kernel) (by decide +kernel)) (goodIn_sub (fun _ h => List.mem_cons_of_mem _ (List.mem_append_right _ h)) (by decide +kernel))
set_option maxRecDepth 20000 in
theorem gX12_account_X12_alone : GoodIn wsX12_account (wsV RX12 242 RX12 yX12_alone wsX12_alone) := goodIn_app (goodIn_of _ (by decide +kernel)) ggX12_account_X12_alone
set_option maxRecDepth 20000 in
theorem ggX12_account_X12_results : GoodIn wsX12_account wsX12_results := goodIn_ca (goodIn_r _ [42, 2, 43, 44, 45, 46, 7, 47, 48, 49, 50, 51, 52, 53, 54, 28, 29, 30, 55, 56, 57, 58, 59, 60, 61, 62, 63, 64, 65, 66, 67, 68, 69, 70, 71, 76, 77, 78, 79, 80, 81, 82, 83, 84, 85, 86, 87, 88, 89, 90, 91, 92, 93, 94, 95, 96, 97, 98, 99, 100, 101, 102] (by decide +kernel) (by decide +kernel)) (goodIn_sub (fun _ h => List.mem_cons_of_mem _ (List.mem_append_right _ h)) (by decide +kernel))
set_option maxRecDepth 20000 in
theorem gX12_account_X12_results : GoodIn wsX12_account (wsV RX12 245 RX12 yX12_results wsX12_results) := goodIn_app (goodIn_of _ (by decide +kernel)) ggX12_account_X12_results
set_option maxRecDepth 20000 in
theorem ggX12_account_X12_refuse : GoodIn wsX12_account wsX12_refuse := goodIn_r _ [75, 1, 76, 77, 78, 79, 80, 81, 82, 83, 84, 85, 86, 87, 88, 89, 90, 91, 92, 93, 94, 95, 96, 97, 98, 99, 100, 101, 102] (by decide +kernel) (by decide +kernel)
set_option maxRecDepth 20000 in
theorem gX12_account_X12_refuse : GoodIn wsX12_account (wsV RX12 79 RX12 yX12_refuse wsX12_refuse) := goodIn_app (goodIn_of _ (by decide +kernel)) ggX12_account_X12_refuse
theorem dX12_account_0 : decode cX12_account 0 = .ok (.aload_n 0, 1) := by decide +kernel
theorem dX12_account_1 : decode cX12_account 1 = .ok (.iconst 0, 1) := by decide +kernel
theorem dX12_account_2 : decode cX12_account 2 = .ok (.putfield 62, 3) := by decide +kernel
theorem dX12_account_5 : decode cX12_account 5 = .ok (.iload_n 1, 1) := by decide +kernel
theorem dX12_account_6 : decode cX12_account 6 = .ok (.tableswitch 104 0 8 #[50, 58, 63, 68, 77, 84, 89, 94, 99], 50) := by decide +kernel
theorem dX12_account_56 : decode cX12_account 56 = .ok (.aload_n 0, 1) := by decide +kernel
theorem dX12_account_57 : decode cX12_account 57 = .ok (.getfield 9, 3) := by decide +kernel
theorem dX12_account_60 : decode cX12_account 60 = .ok (.bipush 37, 2) := by decide +kernel
theorem dX12_account_62 : decode cX12_account 62 = .ok (.iaload, 1) := by decide +kernel
theorem dX12_account_63 : decode cX12_account 63 = .ok (.ireturn, 1) := by decide +kernel
theorem dX12_account_64 : decode cX12_account 64 = .ok (.aload_n 0, 1) := by decide +kernel
theorem dX12_account_65 : decode cX12_account 65 = .ok (.invokevirtual 132, 3) := by decide +kernel
theorem dX12_account_68 : decode cX12_account 68 = .ok (.ireturn, 1) := by decide +kernel
theorem dX12_account_69 : decode cX12_account 69 = .ok (.aload_n 0, 1) := by decide +kernel
theorem dX12_account_70 : decode cX12_account 70 = .ok (.invokevirtual 236, 3) := by decide +kernel
theorem dX12_account_73 : decode cX12_account 73 = .ok (.ireturn, 1) := by decide +kernel
theorem dX12_account_74 : decode cX12_account 74 = .ok (.aload_n 0, 1) := by decide +kernel
theorem dX12_account_75 : decode cX12_account 75 = .ok (.getfield 9, 3) := by decide +kernel
theorem dX12_account_78 : decode cX12_account 78 = .ok (.sipush 1158, 3) := by decide +kernel
theorem dX12_account_81 : decode cX12_account 81 = .ok (.iaload, 1) := by decide +kernel
theorem dX12_account_82 : decode cX12_account 82 = .ok (.ireturn, 1) := by decide +kernel
theorem dX12_account_83 : decode cX12_account 83 = .ok (.aload_n 0, 1) := by decide +kernel
theorem dX12_account_84 : decode cX12_account 84 = .ok (.getfield 9, 3) := by decide +kernel
theorem dX12_account_87 : decode cX12_account 87 = .ok (.iconst 0, 1) := by decide +kernel
theorem dX12_account_88 : decode cX12_account 88 = .ok (.iaload, 1) := by decide +kernel
theorem dX12_account_89 : decode cX12_account 89 = .ok (.ireturn, 1) := by decide +kernel
theorem dX12_account_90 : decode cX12_account 90 = .ok (.aload_n 0, 1) := by decide +kernel
theorem dX12_account_91 : decode cX12_account 91 = .ok (.invokevirtual 239, 3) := by decide +kernel
theorem dX12_account_94 : decode cX12_account 94 = .ok (.ireturn, 1) := by decide +kernel
theorem dX12_account_95 : decode cX12_account 95 = .ok (.aload_n 0, 1) := by decide +kernel
theorem dX12_account_96 : decode cX12_account 96 = .ok (.invokevirtual 242, 3) := by decide +kernel
theorem dX12_account_99 : decode cX12_account 99 = .ok (.ireturn, 1) := by decide +kernel
theorem dX12_account_100 : decode cX12_account 100 = .ok (.aload_n 0, 1) := by decide +kernel
theorem dX12_account_101 : decode cX12_account 101 = .ok (.invokevirtual 245, 3) := by decide +kernel
theorem dX12_account_104 : decode cX12_account 104 = .ok (.ireturn, 1) := by decide +kernel
theorem dX12_account_105 : decode cX12_account 105 = .ok (.aload_n 0, 1) := by decide +kernel
theorem dX12_account_106 : decode cX12_account 106 = .ok (.getfield 76, 3) := by decide +kernel
theorem dX12_account_109 : decode cX12_account 109 = .ok (.ireturn, 1) := by decide +kernel
theorem dX12_account_110 : decode cX12_account 110 = .ok (.aload_n 0, 1) := by decide +kernel
theorem dX12_account_111 : decode cX12_account 111 = .ok (.iconst 1, 1) := by decide +kernel
theorem dX12_account_112 : decode cX12_account 112 = .ok (.invokevirtual 79, 3) := by decide +kernel
theorem dX12_account_115 : decode cX12_account 115 = .ok (.ireturn, 1) := by decide +kernel
set_option maxRecDepth 20000 in
theorem ggX12_meanLength_X12_allForms : GoodIn wsX12_meanLength wsX12_allForms := goodIn_ca (goodIn_r _ [6, 7, 8, 9, 10, 5, 11, 12, 13, 14, 22, 23, 24, 25, 26, 27, 28, 29, 30, 31, 32, 33, 34, 35, 36, 37, 38, 39, 40, 41, 42, 43, 44, 45, 46, 47, 48] (by decide +kernel) (by decide +kernel)) (goodIn_sub (fun _ h => List.mem_cons_of_mem _ (List.mem_append_right _ h)) (by decide +kernel))
set_option maxRecDepth 20000 in
theorem gX12_meanLength_X12_allForms : GoodIn wsX12_meanLength (wsV RX12 132 RX12 yX12_allForms wsX12_allForms) := goodIn_app (goodIn_of _ (by decide +kernel)) ggX12_meanLength_X12_allForms
set_option maxRecDepth 20000 in
theorem ggX12_meanLength_X12_allLetters : GoodIn wsX12_meanLength wsX12_allLetters := goodIn_ca (goodIn_r _ [18, 7, 8, 9, 10, 5, 11, 12, 13, 14, 19, 20, 21, 22, 23, 24, 25, 26, 27, 28, 29, 30, 31, 32, 33, 34, 35, 36, 37, 38, 39, 40, 41, 42, 43, 44, 45, 46, 47, 48] (by decide +kernel) (by decide +kernel)) (goodIn_sub (fun _ h => List.mem_cons_of_mem _ (List.mem_append_right _ h)) (by decide +kernel))
set_option maxRecDepth 20000 in
theorem gX12_meanLength_X12_allLetters : GoodIn wsX12_meanLength (wsV RX12 239 RX12 yX12_allLetters wsX12_allLetters) := goodIn_app (goodIn_of _ (by decide +kernel)) ggX12_meanLength_X12_allLetters
theorem dX12_meanLength_0 : decode cX12_meanLength 0 = .ok (.aload_n 0, 1) := by decide +kernel
theorem dX12_meanLength_1 : decode cX12_meanLength 1 = .ok (.invokevirtual 132, 3) := by decide +kernel
theorem dX12_meanLength_4 : decode cX12_meanLength 4 = .ok (.istore_n 1, 1) := by decide +kernel
theorem dX12_meanLength_5 : decode cX12_meanLength 5 = .ok (.aload_n 0, 1) := by decide +kernel
theorem dX12_meanLength_6 : decode cX12_meanLength 6 = .ok (.iload_n 1, 1) := by decide +kernel
theorem dX12_meanLength_7 : decode cX12_meanLength 7 = .ok (.ifCond .ne 7, 3) := by decide +kernel
theorem dX12_meanLength_10 : decode cX12_meanLength 10 = .ok (.iconst 1, 1) := by decide +kernel
theorem dX12_meanLength_11 : decode cX12_meanLength 11 = .ok (.goto 4, 3) := by decide +kernel
theorem dX12_meanLength_14 : decode cX12_meanLength 14 = .ok (.iconst 0, 1) := by decide +kernel
theorem dX12_meanLength_15 : decode cX12_meanLength 15 = .ok (.putfield 62, 3) := by decide +kernel
theorem dX12_meanLength_18 : decode cX12_meanLength 18 = .ok (.iload_n 1, 1) := by decide +kernel
theorem dX12_meanLength_19 : decode cX12_meanLength 19 = .ok (.ifCond .ne 7, 3) := by decide +kernel
theorem dX12_meanLength_22 : decode cX12_meanLength 22 = .ok (.dconst 0, 1) := by decide +kernel
theorem dX12_meanLength_23 : decode cX12_meanLength 23 = .ok (.goto 11, 3) := by decide +kernel
theorem dX12_meanLength_26 : decode cX12_meanLength 26 = .ok (.aload_n 0, 1) := by decide +kernel
theorem dX12_meanLength_27 : decode cX12_meanLength 27 = .ok (.invokevirtual 239, 3) := by decide +kernel
theorem dX12_meanLength_30 : decode cX12_meanLength 30 = .ok (.i2d, 1) := by decide +kernel
theorem dX12_meanLength_31 : decode cX12_meanLength 31 = .ok (.iload_n 1, 1) := by decide +kernel
theorem dX12_meanLength_32 : decode cX12_meanLength 32 = .ok (.i2d, 1) := by decide +kernel
theorem dX12_meanLength_33 : decode cX12_meanLength 33 = .ok (.ddiv, 1) := by decide +kernel
theorem dX12_meanLength_34 : decode cX12_meanLength 34 = .ok (.dreturn, 1) := by decide +kernel
set_option maxRecDepth 20000 in
theorem ggX12_changedShare_X12_layResults : GoodIn wsX12_changedShare wsX12_layResults := goodIn_ca (goodIn_r _ [8, 1, 9, 10, 3, 11, 12, 13, 7, 14, 15, 16, 17, 18, 19, 20, 21, 22, 23, 24, 25, 26, 27, 28, 29, 30, 31, 32, 36, 37, 38, 39, 40, 41, 42, 43, 44, 45, 46, 47, 48, 49, 50, 51, 52, 53, 54, 55, 56, 57, 58, 59, 60, 61, 62] (by decide +kernel) (by decide +kernel)) (goodIn_sub (fun _ h => List.mem_cons_of_mem _ (List.mem_append_right _ h)) (by decide +kernel))
set_option maxRecDepth 20000 in
theorem gX12_changedShare_X12_layResults : GoodIn wsX12_changedShare (wsV RX12 227 RX12 yX12_layResults wsX12_layResults) := goodIn_app (goodIn_of _ (by decide +kernel)) ggX12_changedShare_X12_layResults
theorem dX12_changedShare_0 : decode cX12_changedShare 0 = .ok (.aload_n 0, 1) := by decide +kernel
theorem dX12_changedShare_1 : decode cX12_changedShare 1 = .ok (.aload_n 0, 1) := by decide +kernel
theorem dX12_changedShare_2 : decode cX12_changedShare 2 = .ok (.getfield 9, 3) := by decide +kernel
theorem dX12_changedShare_5 : decode cX12_changedShare 5 = .ok (.bipush 37, 2) := by decide +kernel
theorem dX12_changedShare_7 : decode cX12_changedShare 7 = .ok (.iaload, 1) := by decide +kernel
theorem dX12_changedShare_8 : decode cX12_changedShare 8 = .ok (.ifCond .ne 7, 3) := by decide +kernel
theorem dX12_changedShare_11 : decode cX12_changedShare 11 = .ok (.iconst 1, 1) := by decide +kernel
theorem dX12_changedShare_12 : decode cX12_changedShare 12 = .ok (.goto 4, 3) := by decide +kernel
theorem dX12_changedShare_15 : decode cX12_changedShare 15 = .ok (.iconst 0, 1) := by decide +kernel
theorem dX12_changedShare_16 : decode cX12_changedShare 16 = .ok (.putfield 62, 3) := by decide +kernel
theorem dX12_changedShare_19 : decode cX12_changedShare 19 = .ok (.aload_n 0, 1) := by decide +kernel
theorem dX12_changedShare_20 : decode cX12_changedShare 20 = .ok (.getfield 62, 3) := by decide +kernel
theorem dX12_changedShare_23 : decode cX12_changedShare 23 = .ok (.ifCond .le 5, 3) := by decide +kernel
theorem dX12_changedShare_26 : decode cX12_changedShare 26 = .ok (.fconst 0, 1) := by decide +kernel
theorem dX12_changedShare_27 : decode cX12_changedShare 27 = .ok (.freturn, 1) := by decide +kernel
theorem dX12_changedShare_28 : decode cX12_changedShare 28 = .ok (.aload_n 0, 1) := by decide +kernel
theorem dX12_changedShare_29 : decode cX12_changedShare 29 = .ok (.invokevirtual 227, 3) := by decide +kernel
theorem dX12_changedShare_32 : decode cX12_changedShare 32 = .ok (.iconst 0, 1) := by decide +kernel
theorem dX12_changedShare_33 : decode cX12_changedShare 33 = .ok (.istore_n 1, 1) := by decide +kernel
theorem dX12_changedShare_34 : decode cX12_changedShare 34 = .ok (.iconst 0, 1) := by decide +kernel
theorem dX12_changedShare_35 : decode cX12_changedShare 35 = .ok (.istore_n 2, 1) := by decide +kernel
theorem dX12_changedShare_36 : decode cX12_changedShare 36 = .ok (.iload_n 2, 1) := by decide +kernel
theorem dX12_changedShare_37 : decode cX12_changedShare 37 = .ok (.aload_n 0, 1) := by decide +kernel
theorem dX12_changedShare_38 : decode cX12_changedShare 38 = .ok (.getfield 9, 3) := by decide +kernel
theorem dX12_changedShare_41 : decode cX12_changedShare 41 = .ok (.bipush 37, 2) := by decide +kernel
theorem dX12_changedShare_43 : decode cX12_changedShare 43 = .ok (.iaload, 1) := by decide +kernel
theorem dX12_changedShare_44 : decode cX12_changedShare 44 = .ok (.if_icmp .ge 40, 3) := by decide +kernel
theorem dX12_changedShare_47 : decode cX12_changedShare 47 = .ok (.iload_n 1, 1) := by decide +kernel
theorem dX12_changedShare_48 : decode cX12_changedShare 48 = .ok (.aload_n 0, 1) := by decide +kernel
theorem dX12_changedShare_49 : decode cX12_changedShare 49 = .ok (.getfield 41, 3) := by decide +kernel
theorem dX12_changedShare_52 : decode cX12_changedShare 52 = .ok (.bipush 9, 2) := by decide +kernel
theorem dX12_changedShare_54 : decode cX12_changedShare 54 = .ok (.iload_n 2, 1) := by decide +kernel
theorem dX12_changedShare_55 : decode cX12_changedShare 55 = .ok (.imul, 1) := by decide +kernel
theorem dX12_changedShare_56 : decode cX12_changedShare 56 = .ok (.aload_n 0, 1) := by decide +kernel
theorem dX12_changedShare_57 : decode cX12_changedShare 57 = .ok (.getfield 9, 3) := by decide +kernel
theorem dX12_changedShare_60 : decode cX12_changedShare 60 = .ok (.iload_n 2, 1) := by decide +kernel
theorem dX12_changedShare_61 : decode cX12_changedShare 61 = .ok (.iconst 0, 1) := by decide +kernel
theorem dX12_changedShare_62 : decode cX12_changedShare 62 = .ok (.invokestatic 111, 3) := by decide +kernel
theorem dX12_changedShare_65 : decode cX12_changedShare 65 = .ok (.invokestatic 114, 3) := by decide +kernel
theorem dX12_changedShare_68 : decode cX12_changedShare 68 = .ok (.ifCond .eq 7, 3) := by decide +kernel
theorem dX12_changedShare_71 : decode cX12_changedShare 71 = .ok (.iconst 0, 1) := by decide +kernel
theorem dX12_changedShare_72 : decode cX12_changedShare 72 = .ok (.goto 4, 3) := by decide +kernel
theorem dX12_changedShare_75 : decode cX12_changedShare 75 = .ok (.iconst 1, 1) := by decide +kernel
theorem dX12_changedShare_76 : decode cX12_changedShare 76 = .ok (.iadd, 1) := by decide +kernel
theorem dX12_changedShare_77 : decode cX12_changedShare 77 = .ok (.istore_n 1, 1) := by decide +kernel
theorem dX12_changedShare_78 : decode cX12_changedShare 78 = .ok (.iinc 2 1, 3) := by decide +kernel
theorem dX12_changedShare_81 : decode cX12_changedShare 81 = .ok (.goto (-45), 3) := by decide +kernel
theorem dX12_changedShare_84 : decode cX12_changedShare 84 = .ok (.iload_n 1, 1) := by decide +kernel
theorem dX12_changedShare_85 : decode cX12_changedShare 85 = .ok (.i2f, 1) := by decide +kernel
theorem dX12_changedShare_86 : decode cX12_changedShare 86 = .ok (.aload_n 0, 1) := by decide +kernel
theorem dX12_changedShare_87 : decode cX12_changedShare 87 = .ok (.getfield 9, 3) := by decide +kernel
theorem dX12_changedShare_90 : decode cX12_changedShare 90 = .ok (.bipush 37, 2) := by decide +kernel
theorem dX12_changedShare_92 : decode cX12_changedShare 92 = .ok (.iaload, 1) := by decide +kernel
theorem dX12_changedShare_93 : decode cX12_changedShare 93 = .ok (.i2f, 1) := by decide +kernel
theorem dX12_changedShare_94 : decode cX12_changedShare 94 = .ok (.fdiv, 1) := by decide +kernel
theorem dX12_changedShare_95 : decode cX12_changedShare 95 = .ok (.freturn, 1) := by decide +kernel
theorem dX12_here_0 : decode cX12_here 0 = .ok (.aload_n 0, 1) := by decide +kernel
theorem dX12_here_1 : decode cX12_here 1 = .ok (.getfield 248, 3) := by decide +kernel
theorem dX12_here_4 : decode cX12_here 4 = .ok (.aload_n 0, 1) := by decide +kernel
theorem dX12_here_5 : decode cX12_here 5 = .ok (.getfield 251, 3) := by decide +kernel
theorem dX12_here_8 : decode cX12_here 8 = .ok (.if_icmp .ge 15, 3) := by decide +kernel
theorem dX12_here_11 : decode cX12_here 11 = .ok (.aload_n 0, 1) := by decide +kernel
theorem dX12_here_12 : decode cX12_here 12 = .ok (.getfield 19, 3) := by decide +kernel
theorem dX12_here_15 : decode cX12_here 15 = .ok (.aload_n 0, 1) := by decide +kernel
theorem dX12_here_16 : decode cX12_here 16 = .ok (.getfield 248, 3) := by decide +kernel
theorem dX12_here_19 : decode cX12_here 19 = .ok (.iaload, 1) := by decide +kernel
theorem dX12_here_20 : decode cX12_here 20 = .ok (.goto 4, 3) := by decide +kernel
theorem dX12_here_23 : decode cX12_here 23 = .ok (.iconst (-1), 1) := by decide +kernel
theorem dX12_here_24 : decode cX12_here 24 = .ok (.ireturn, 1) := by decide +kernel
set_option maxRecDepth 20000 in
theorem ggX12_readNumber_X12_here : GoodIn wsX12_readNumber wsX12_here := goodIn_ca (goodIn_r _ [7, 1, 8, 9, 13, 14, 15, 16, 17, 18, 19, 20, 21, 22, 23, 24, 25, 26, 27, 28, 29, 30, 31, 32, 33, 34, 35, 36, 37, 38, 39] (by decide +kernel) (by decide +kernel)) (goodIn_sub (fun _ h => List.mem_cons_of_mem _ (List.mem_append_right _ h)) (by decide +kernel))
set_option maxRecDepth 20000 in
theorem gX12_readNumber_X12_here : GoodIn wsX12_readNumber (wsV RX12 254 RX12 yX12_here wsX12_here) := goodIn_app (goodIn_of _ (by decide +kernel)) ggX12_readNumber_X12_here
set_option maxRecDepth 20000 in
theorem ggX12_readNumber_X12_in : GoodIn wsX12_readNumber wsX12_in := goodIn_r _ [12] (by decide +kernel) (by decide +kernel)
set_option maxRecDepth 20000 in
theorem gX12_readNumber_X12_in : GoodIn wsX12_readNumber (va_wsS RX12 72 yX12_in wsX12_in) := goodIn_app (goodIn_of _ (by decide +kernel)) ggX12_readNumber_X12_in
theorem dX12_readNumber_0 : decode cX12_readNumber 0 = .ok (.iconst 0, 1) := by decide +kernel
theorem dX12_readNumber_1 : decode cX12_readNumber 1 = .ok (.istore_n 1, 1) := by decide +kernel
theorem dX12_readNumber_2 : decode cX12_readNumber 2 = .ok (.iconst 0, 1) := by decide +kernel
theorem dX12_readNumber_3 : decode cX12_readNumber 3 = .ok (.istore_n 2, 1) := by decide +kernel
theorem dX12_readNumber_4 : decode cX12_readNumber 4 = .ok (.iload_n 2, 1) := by decide +kernel
theorem dX12_readNumber_5 : decode cX12_readNumber 5 = .ok (.iconst 2, 1) := by decide +kernel
theorem dX12_readNumber_6 : decode cX12_readNumber 6 = .ok (.if_icmp .ge 46, 3) := by decide +kernel
theorem dX12_readNumber_9 : decode cX12_readNumber 9 = .ok (.aload_n 0, 1) := by decide +kernel
theorem dX12_readNumber_10 : decode cX12_readNumber 10 = .ok (.invokevirtual 254, 3) := by decide +kernel
theorem dX12_readNumber_13 : decode cX12_readNumber 13 = .ok (.bipush 48, 2) := by decide +kernel
theorem dX12_readNumber_15 : decode cX12_readNumber 15 = .ok (.bipush 57, 2) := by decide +kernel
theorem dX12_readNumber_17 : decode cX12_readNumber 17 = .ok (.invokestatic 72, 3) := by decide +kernel
theorem dX12_readNumber_20 : decode cX12_readNumber 20 = .ok (.ifCond .eq 32, 3) := by decide +kernel
theorem dX12_readNumber_23 : decode cX12_readNumber 23 = .ok (.bipush 10, 2) := by decide +kernel
theorem dX12_readNumber_25 : decode cX12_readNumber 25 = .ok (.iload_n 1, 1) := by decide +kernel
theorem dX12_readNumber_26 : decode cX12_readNumber 26 = .ok (.imul, 1) := by decide +kernel
theorem dX12_readNumber_27 : decode cX12_readNumber 27 = .ok (.aload_n 0, 1) := by decide +kernel
theorem dX12_readNumber_28 : decode cX12_readNumber 28 = .ok (.invokevirtual 254, 3) := by decide +kernel
theorem dX12_readNumber_31 : decode cX12_readNumber 31 = .ok (.iadd, 1) := by decide +kernel
theorem dX12_readNumber_32 : decode cX12_readNumber 32 = .ok (.bipush 48, 2) := by decide +kernel
theorem dX12_readNumber_34 : decode cX12_readNumber 34 = .ok (.isub, 1) := by decide +kernel
theorem dX12_readNumber_35 : decode cX12_readNumber 35 = .ok (.istore_n 1, 1) := by decide +kernel
theorem dX12_readNumber_36 : decode cX12_readNumber 36 = .ok (.iinc 2 1, 3) := by decide +kernel
theorem dX12_readNumber_39 : decode cX12_readNumber 39 = .ok (.aload_n 0, 1) := by decide +kernel
theorem dX12_readNumber_40 : decode cX12_readNumber 40 = .ok (.dup, 1) := by decide +kernel
theorem dX12_readNumber_41 : decode cX12_readNumber 41 = .ok (.getfield 248, 3) := by decide +kernel
theorem dX12_readNumber_44 : decode cX12_readNumber 44 = .ok (.iconst 1, 1) := by decide +kernel
theorem dX12_readNumber_45 : decode cX12_readNumber 45 = .ok (.iadd, 1) := by decide +kernel
theorem dX12_readNumber_46 : decode cX12_readNumber 46 = .ok (.putfield 248, 3) := by decide +kernel
theorem dX12_readNumber_49 : decode cX12_readNumber 49 = .ok (.goto (-45), 3) := by decide +kernel
theorem dX12_readNumber_52 : decode cX12_readNumber 52 = .ok (.aload_n 0, 1) := by decide +kernel
theorem dX12_readNumber_53 : decode cX12_readNumber 53 = .ok (.aload_n 0, 1) := by decide +kernel
theorem dX12_readNumber_54 : decode cX12_readNumber 54 = .ok (.getfield 257, 3) := by decide +kernel
theorem dX12_readNumber_57 : decode cX12_readNumber 57 = .ok (.ifCond .ne 7, 3) := by decide +kernel
theorem dX12_readNumber_60 : decode cX12_readNumber 60 = .ok (.iload_n 2, 1) := by decide +kernel
theorem dX12_readNumber_61 : decode cX12_readNumber 61 = .ok (.ifCond .ne 7, 3) := by decide +kernel
theorem dX12_readNumber_64 : decode cX12_readNumber 64 = .ok (.iconst 1, 1) := by decide +kernel
theorem dX12_readNumber_65 : decode cX12_readNumber 65 = .ok (.goto 4, 3) := by decide +kernel
theorem dX12_readNumber_68 : decode cX12_readNumber 68 = .ok (.iconst 0, 1) := by decide +kernel
theorem dX12_readNumber_69 : decode cX12_readNumber 69 = .ok (.putfield 257, 3) := by decide +kernel
theorem dX12_readNumber_72 : decode cX12_readNumber 72 = .ok (.iload_n 1, 1) := by decide +kernel
theorem dX12_readNumber_73 : decode cX12_readNumber 73 = .ok (.ireturn, 1) := by decide +kernel
set_option maxRecDepth 20000 in
theorem ggX12_readCommand_X12_here : GoodIn wsX12_readCommand wsX12_here := goodIn_ca (goodIn_r _ [11, 3, 12, 13, 30, 31, 32, 33, 34, 35, 36, 37, 38, 39, 40, 41, 42, 43, 44, 45, 46, 47, 48, 49, 50, 51, 52, 53, 54, 55, 56] (by decide +kernel) (by decide +kernel)) (goodIn_sub (fun _ h => List.mem_cons_of_mem _ (List.mem_append_right _ h)) (by decide +kernel))
set_option maxRecDepth 20000 in
theorem gX12_readCommand_X12_here : GoodIn wsX12_readCommand (wsV RX12 254 RX12 yX12_here wsX12_here) := goodIn_app (goodIn_of _ (by decide +kernel)) ggX12_readCommand_X12_here
set_option maxRecDepth 20000 in
theorem ggX12_readCommand_X12_readNumber : GoodIn wsX12_readCommand wsX12_readNumber := goodIn_ca (goodIn_r _ [17, 3, 5, 7, 8, 9, 10, 11, 12, 13, 18, 19, 20, 30, 31, 32, 33, 34, 35, 36, 37, 38, 39, 40, 41, 42, 43, 44, 45, 46, 47, 48, 49, 50, 51, 52, 53, 54, 55, 56] (by decide +kernel) (by decide +kernel)) (goodIn_sub (fun _ h => List.mem_cons_of_mem _ (List.mem_append_right _ h)) (by decide +kernel))
set_option maxRecDepth 20000 in
theorem gX12_readCommand_X12_readNumber : GoodIn wsX12_readCommand (wsV RX12 264 RX12 yX12_readNumber wsX12_readNumber) := goodIn_app (goodIn_of _ (by decide +kernel)) ggX12_readCommand_X12_readNumber
theorem dX12_readCommand_0 : decode cX12_readCommand 0 = .ok (.aload_n 0, 1) := by decide +kernel
theorem dX12_readCommand_1 : decode cX12_readCommand 1 = .ok (.invokevirtual 254, 3) := by decide +kernel
theorem dX12_readCommand_4 : decode cX12_readCommand 4 = .ok (.bipush 43, 2) := by decide +kernel
theorem dX12_readCommand_6 : decode cX12_readCommand 6 = .ok (.if_icmp .ne 27, 3) := by decide +kernel
theorem dX12_readCommand_9 : decode cX12_readCommand 9 = .ok (.aload_n 0, 1) := by decide +kernel
theorem dX12_readCommand_10 : decode cX12_readCommand 10 = .ok (.getfield 47, 3) := by decide +kernel
theorem dX12_readCommand_13 : decode cX12_readCommand 13 = .ok (.aload_n 0, 1) := by decide +kernel
theorem dX12_readCommand_14 : decode cX12_readCommand 14 = .ok (.getfield 261, 3) := by decide +kernel
theorem dX12_readCommand_17 : decode cX12_readCommand 17 = .ok (.bipush 43, 2) := by decide +kernel
theorem dX12_readCommand_19 : decode cX12_readCommand 19 = .ok (.iastore, 1) := by decide +kernel
theorem dX12_readCommand_20 : decode cX12_readCommand 20 = .ok (.aload_n 0, 1) := by decide +kernel
theorem dX12_readCommand_21 : decode cX12_readCommand 21 = .ok (.dup, 1) := by decide +kernel
theorem dX12_readCommand_22 : decode cX12_readCommand 22 = .ok (.getfield 248, 3) := by decide +kernel
theorem dX12_readCommand_25 : decode cX12_readCommand 25 = .ok (.iconst 1, 1) := by decide +kernel
theorem dX12_readCommand_26 : decode cX12_readCommand 26 = .ok (.iadd, 1) := by decide +kernel
theorem dX12_readCommand_27 : decode cX12_readCommand 27 = .ok (.putfield 248, 3) := by decide +kernel
theorem dX12_readCommand_30 : decode cX12_readCommand 30 = .ok (.goto 86, 3) := by decide +kernel
theorem dX12_readCommand_33 : decode cX12_readCommand 33 = .ok (.aload_n 0, 1) := by decide +kernel
theorem dX12_readCommand_34 : decode cX12_readCommand 34 = .ok (.getfield 50, 3) := by decide +kernel
theorem dX12_readCommand_37 : decode cX12_readCommand 37 = .ok (.aload_n 0, 1) := by decide +kernel
theorem dX12_readCommand_38 : decode cX12_readCommand 38 = .ok (.getfield 261, 3) := by decide +kernel
theorem dX12_readCommand_41 : decode cX12_readCommand 41 = .ok (.aload_n 0, 1) := by decide +kernel
theorem dX12_readCommand_42 : decode cX12_readCommand 42 = .ok (.invokevirtual 264, 3) := by decide +kernel
theorem dX12_readCommand_45 : decode cX12_readCommand 45 = .ok (.iastore, 1) := by decide +kernel
theorem dX12_readCommand_46 : decode cX12_readCommand 46 = .ok (.aload_n 0, 1) := by decide +kernel
theorem dX12_readCommand_47 : decode cX12_readCommand 47 = .ok (.invokevirtual 254, 3) := by decide +kernel
theorem dX12_readCommand_50 : decode cX12_readCommand 50 = .ok (.istore_n 1, 1) := by decide +kernel
theorem dX12_readCommand_51 : decode cX12_readCommand 51 = .ok (.aload_n 0, 1) := by decide +kernel
theorem dX12_readCommand_52 : decode cX12_readCommand 52 = .ok (.aload_n 0, 1) := by decide +kernel
theorem dX12_readCommand_53 : decode cX12_readCommand 53 = .ok (.getfield 257, 3) := by decide +kernel
theorem dX12_readCommand_56 : decode cX12_readCommand 56 = .ok (.ifCond .ne 21, 3) := by decide +kernel
theorem dX12_readCommand_59 : decode cX12_readCommand 59 = .ok (.iload_n 1, 1) := by decide +kernel
theorem dX12_readCommand_60 : decode cX12_readCommand 60 = .ok (.bipush 126, 2) := by decide +kernel
theorem dX12_readCommand_62 : decode cX12_readCommand 62 = .ok (.if_icmp .eq 19, 3) := by decide +kernel
theorem dX12_readCommand_65 : decode cX12_readCommand 65 = .ok (.iload_n 1, 1) := by decide +kernel
theorem dX12_readCommand_66 : decode cX12_readCommand 66 = .ok (.bipush 62, 2) := by decide +kernel
theorem dX12_readCommand_68 : decode cX12_readCommand 68 = .ok (.if_icmp .eq 13, 3) := by decide +kernel
theorem dX12_readCommand_71 : decode cX12_readCommand 71 = .ok (.iload_n 1, 1) := by decide +kernel
theorem dX12_readCommand_72 : decode cX12_readCommand 72 = .ok (.bipush 38, 2) := by decide +kernel
theorem dX12_readCommand_74 : decode cX12_readCommand 74 = .ok (.if_icmp .eq 7, 3) := by decide +kernel
theorem dX12_readCommand_77 : decode cX12_readCommand 77 = .ok (.iconst 1, 1) := by decide +kernel
theorem dX12_readCommand_78 : decode cX12_readCommand 78 = .ok (.goto 4, 3) := by decide +kernel
theorem dX12_readCommand_81 : decode cX12_readCommand 81 = .ok (.iconst 0, 1) := by decide +kernel
theorem dX12_readCommand_82 : decode cX12_readCommand 82 = .ok (.putfield 257, 3) := by decide +kernel
theorem dX12_readCommand_85 : decode cX12_readCommand 85 = .ok (.aload_n 0, 1) := by decide +kernel
theorem dX12_readCommand_86 : decode cX12_readCommand 86 = .ok (.getfield 47, 3) := by decide +kernel
theorem dX12_readCommand_89 : decode cX12_readCommand 89 = .ok (.aload_n 0, 1) := by decide +kernel
theorem dX12_readCommand_90 : decode cX12_readCommand 90 = .ok (.getfield 261, 3) := by decide +kernel
theorem dX12_readCommand_93 : decode cX12_readCommand 93 = .ok (.iload_n 1, 1) := by decide +kernel
theorem dX12_readCommand_94 : decode cX12_readCommand 94 = .ok (.iastore, 1) := by decide +kernel
theorem dX12_readCommand_95 : decode cX12_readCommand 95 = .ok (.aload_n 0, 1) := by decide +kernel
theorem dX12_readCommand_96 : decode cX12_readCommand 96 = .ok (.dup, 1) := by decide +kernel
theorem dX12_readCommand_97 : decode cX12_readCommand 97 = .ok (.getfield 248, 3) := by decide +kernel
theorem dX12_readCommand_100 : decode cX12_readCommand 100 = .ok (.aload_n 0, 1) := by decide +kernel
theorem dX12_readCommand_101 : decode cX12_readCommand 101 = .ok (.getfield 257, 3) := by decide +kernel
theorem dX12_readCommand_104 : decode cX12_readCommand 104 = .ok (.ifCond .eq 7, 3) := by decide +kernel
theorem dX12_readCommand_107 : decode cX12_readCommand 107 = .ok (.iconst 0, 1) := by decide +kernel
theorem dX12_readCommand_108 : decode cX12_readCommand 108 = .ok (.goto 4, 3) := by decide +kernel
theorem dX12_readCommand_111 : decode cX12_readCommand 111 = .ok (.iconst 1, 1) := by decide +kernel
theorem dX12_readCommand_112 : decode cX12_readCommand 112 = .ok (.iadd, 1) := by decide +kernel
theorem dX12_readCommand_113 : decode cX12_readCommand 113 = .ok (.putfield 248, 3) := by decide +kernel
theorem dX12_readCommand_116 : decode cX12_readCommand 116 = .ok (.aload_n 0, 1) := by decide +kernel
theorem dX12_readCommand_117 : decode cX12_readCommand 117 = .ok (.getfield 257, 3) := by decide +kernel
theorem dX12_readCommand_120 : decode cX12_readCommand 120 = .ok (.ifCond .ne 38, 3) := by decide +kernel
theorem dX12_readCommand_123 : decode cX12_readCommand 123 = .ok (.aload_n 0, 1) := by decide +kernel
theorem dX12_readCommand_124 : decode cX12_readCommand 124 = .ok (.getfield 47, 3) := by decide +kernel
theorem dX12_readCommand_127 : decode cX12_readCommand 127 = .ok (.aload_n 0, 1) := by decide +kernel
theorem dX12_readCommand_128 : decode cX12_readCommand 128 = .ok (.getfield 261, 3) := by decide +kernel
theorem dX12_readCommand_131 : decode cX12_readCommand 131 = .ok (.iaload, 1) := by decide +kernel
theorem dX12_readCommand_132 : decode cX12_readCommand 132 = .ok (.bipush 43, 2) := by decide +kernel
theorem dX12_readCommand_134 : decode cX12_readCommand 134 = .ok (.if_icmp .eq 17, 3) := by decide +kernel
theorem dX12_readCommand_137 : decode cX12_readCommand 137 = .ok (.aload_n 0, 1) := by decide +kernel
theorem dX12_readCommand_138 : decode cX12_readCommand 138 = .ok (.getfield 47, 3) := by decide +kernel
theorem dX12_readCommand_141 : decode cX12_readCommand 141 = .ok (.aload_n 0, 1) := by decide +kernel
theorem dX12_readCommand_142 : decode cX12_readCommand 142 = .ok (.getfield 261, 3) := by decide +kernel
theorem dX12_readCommand_145 : decode cX12_readCommand 145 = .ok (.iaload, 1) := by decide +kernel
theorem dX12_readCommand_146 : decode cX12_readCommand 146 = .ok (.bipush 126, 2) := by decide +kernel
theorem dX12_readCommand_148 : decode cX12_readCommand 148 = .ok (.if_icmp .ne 10, 3) := by decide +kernel
theorem dX12_readCommand_151 : decode cX12_readCommand 151 = .ok (.aload_n 0, 1) := by decide +kernel
theorem dX12_readCommand_152 : decode cX12_readCommand 152 = .ok (.invokevirtual 267, 3) := by decide +kernel
theorem dX12_readCommand_155 : decode cX12_readCommand 155 = .ok (.goto 23, 3) := by decide +kernel
theorem dX12_readCommand_158 : decode cX12_readCommand 158 = .ok (.aload_n 0, 1) := by decide +kernel
theorem dX12_readCommand_159 : decode cX12_readCommand 159 = .ok (.getfield 257, 3) := by decide +kernel
theorem dX12_readCommand_162 : decode cX12_readCommand 162 = .ok (.ifCond .ne 16, 3) := by decide +kernel
theorem dX12_readCommand_165 : decode cX12_readCommand 165 = .ok (.aload_n 0, 1) := by decide +kernel
theorem dX12_readCommand_166 : decode cX12_readCommand 166 = .ok (.getfield 53, 3) := by decide +kernel
theorem dX12_readCommand_169 : decode cX12_readCommand 169 = .ok (.aload_n 0, 1) := by decide +kernel
theorem dX12_readCommand_170 : decode cX12_readCommand 170 = .ok (.getfield 261, 3) := by decide +kernel
theorem dX12_readCommand_173 : decode cX12_readCommand 173 = .ok (.aload_n 0, 1) := by decide +kernel
theorem dX12_readCommand_174 : decode cX12_readCommand 174 = .ok (.invokevirtual 264, 3) := by decide +kernel
theorem dX12_readCommand_177 : decode cX12_readCommand 177 = .ok (.iastore, 1) := by decide +kernel
theorem dX12_readCommand_178 : decode cX12_readCommand 178 = .ok (.aload_n 0, 1) := by decide +kernel
theorem dX12_readCommand_179 : decode cX12_readCommand 179 = .ok (.dup, 1) := by decide +kernel
theorem dX12_readCommand_180 : decode cX12_readCommand 180 = .ok (.getfield 261, 3) := by decide +kernel
theorem dX12_readCommand_183 : decode cX12_readCommand 183 = .ok (.iconst 1, 1) := by decide +kernel
theorem dX12_readCommand_184 : decode cX12_readCommand 184 = .ok (.iadd, 1) := by decide +kernel
theorem dX12_readCommand_185 : decode cX12_readCommand 185 = .ok (.putfield 261, 3) := by decide +kernel
theorem dX12_readCommand_188 : decode cX12_readCommand 188 = .ok (.return_, 1) := by decide +kernel
set_option maxRecDepth 20000 in
theorem ggX12_isText_X12_readCommand : GoodIn wsX12_isText wsX12_readCommand := goodIn_ca (goodIn_r _ [9, 10, 3, 1, 11, 2, 12, 13, 14, 15, 8, 16, 4, 17, 18, 19, 20, 21, 22, 23, 24, 25, 26, 27, 28, 29, 30, 31, 32, 33, 34, 35, 36, 37, 38, 39, 40, 41, 42, 43, 44, 45, 46, 47, 48, 49, 50, 51, 52, 53, 54, 55, 56, 57, 58, 59, 60] (by decide +kernel) (by decide +kernel)) (goodIn_sub (fun _ h => List.mem_cons_of_mem _ (List.mem_append_right _ h)) (by decide +kernel))
set_option maxRecDepth 20000 in
theorem gX12_isText_X12_readCommand : GoodIn wsX12_isText (wsV RX12 270 RX12 yX12_readCommand wsX12_readCommand) := goodIn_app (goodIn_of _ (by decide +kernel)) ggX12_isText_X12_readCommand
set_option maxRecDepth 20000 in
theorem ggX12_isText_X12_here : GoodIn wsX12_isText wsX12_here := goodIn_ca (goodIn_r _ [16, 1, 4, 17, 34, 35, 36, 37, 38, 39, 40, 41, 42, 43, 44, 45, 46, 47, 48, 49, 50, 51, 52, 53, 54, 55, 56, 57, 58, 59, 60] (by decide +kernel) (by decide +kernel)) (goodIn_sub (fun _ h => List.mem_cons_of_mem _ (List.mem_append_right _ h)) (by decide +kernel))
set_option maxRecDepth 20000 in
theorem gX12_isText_X12_here : GoodIn wsX12_isText (wsV RX12 254 RX12 yX12_here wsX12_here) := goodIn_app (goodIn_of _ (by decide +kernel)) ggX12_isText_X12_here
theorem dX12_isText_0 : decode cX12_isText 0 = .ok (.aload_n 0, 1) := by decide +kernel
theorem dX12_isText_1 : decode cX12_isText 1 = .ok (.iconst 0, 1) := by decide +kernel
theorem dX12_isText_2 : decode cX12_isText 2 = .ok (.putfield 248, 3) := by decide +kernel
theorem dX12_isText_5 : decode cX12_isText 5 = .ok (.aload_n 0, 1) := by decide +kernel
theorem dX12_isText_6 : decode cX12_isText 6 = .ok (.iconst 0, 1) := by decide +kernel
theorem dX12_isText_7 : decode cX12_isText 7 = .ok (.putfield 257, 3) := by decide +kernel
theorem dX12_isText_10 : decode cX12_isText 10 = .ok (.aload_n 0, 1) := by decide +kernel
theorem dX12_isText_11 : decode cX12_isText 11 = .ok (.iconst 0, 1) := by decide +kernel
theorem dX12_isText_12 : decode cX12_isText 12 = .ok (.putfield 261, 3) := by decide +kernel
theorem dX12_isText_15 : decode cX12_isText 15 = .ok (.aload_n 0, 1) := by decide +kernel
theorem dX12_isText_16 : decode cX12_isText 16 = .ok (.invokevirtual 270, 3) := by decide +kernel
theorem dX12_isText_19 : decode cX12_isText 19 = .ok (.aload_n 0, 1) := by decide +kernel
theorem dX12_isText_20 : decode cX12_isText 20 = .ok (.getfield 257, 3) := by decide +kernel
theorem dX12_isText_23 : decode cX12_isText 23 = .ok (.ifCond .ne 67, 3) := by decide +kernel
theorem dX12_isText_26 : decode cX12_isText 26 = .ok (.aload_n 0, 1) := by decide +kernel
theorem dX12_isText_27 : decode cX12_isText 27 = .ok (.getfield 248, 3) := by decide +kernel
theorem dX12_isText_30 : decode cX12_isText 30 = .ok (.aload_n 0, 1) := by decide +kernel
theorem dX12_isText_31 : decode cX12_isText 31 = .ok (.getfield 251, 3) := by decide +kernel
theorem dX12_isText_34 : decode cX12_isText 34 = .ok (.if_icmp .ge 56, 3) := by decide +kernel
theorem dX12_isText_37 : decode cX12_isText 37 = .ok (.aload_n 0, 1) := by decide +kernel
theorem dX12_isText_38 : decode cX12_isText 38 = .ok (.aload_n 0, 1) := by decide +kernel
theorem dX12_isText_39 : decode cX12_isText 39 = .ok (.invokevirtual 254, 3) := by decide +kernel
theorem dX12_isText_42 : decode cX12_isText 42 = .ok (.bipush 59, 2) := by decide +kernel
theorem dX12_isText_44 : decode cX12_isText 44 = .ok (.if_icmp .eq 7, 3) := by decide +kernel
theorem dX12_isText_47 : decode cX12_isText 47 = .ok (.iconst 1, 1) := by decide +kernel
theorem dX12_isText_48 : decode cX12_isText 48 = .ok (.goto 4, 3) := by decide +kernel
theorem dX12_isText_51 : decode cX12_isText 51 = .ok (.iconst 0, 1) := by decide +kernel
theorem dX12_isText_52 : decode cX12_isText 52 = .ok (.putfield 257, 3) := by decide +kernel
theorem dX12_isText_55 : decode cX12_isText 55 = .ok (.aload_n 0, 1) := by decide +kernel
theorem dX12_isText_56 : decode cX12_isText 56 = .ok (.dup, 1) := by decide +kernel
theorem dX12_isText_57 : decode cX12_isText 57 = .ok (.getfield 248, 3) := by decide +kernel
theorem dX12_isText_60 : decode cX12_isText 60 = .ok (.aload_n 0, 1) := by decide +kernel
theorem dX12_isText_61 : decode cX12_isText 61 = .ok (.getfield 257, 3) := by decide +kernel
theorem dX12_isText_64 : decode cX12_isText 64 = .ok (.ifCond .eq 7, 3) := by decide +kernel
theorem dX12_isText_67 : decode cX12_isText 67 = .ok (.iconst 0, 1) := by decide +kernel
theorem dX12_isText_68 : decode cX12_isText 68 = .ok (.goto 4, 3) := by decide +kernel
theorem dX12_isText_71 : decode cX12_isText 71 = .ok (.iconst 1, 1) := by decide +kernel
theorem dX12_isText_72 : decode cX12_isText 72 = .ok (.iadd, 1) := by decide +kernel
theorem dX12_isText_73 : decode cX12_isText 73 = .ok (.putfield 248, 3) := by decide +kernel
theorem dX12_isText_76 : decode cX12_isText 76 = .ok (.aload_n 0, 1) := by decide +kernel
theorem dX12_isText_77 : decode cX12_isText 77 = .ok (.getfield 257, 3) := by decide +kernel
theorem dX12_isText_80 : decode cX12_isText 80 = .ok (.ifCond .ne (-61), 3) := by decide +kernel
theorem dX12_isText_83 : decode cX12_isText 83 = .ok (.aload_n 0, 1) := by decide +kernel
theorem dX12_isText_84 : decode cX12_isText 84 = .ok (.invokevirtual 270, 3) := by decide +kernel
theorem dX12_isText_87 : decode cX12_isText 87 = .ok (.goto (-68), 3) := by decide +kernel
theorem dX12_isText_90 : decode cX12_isText 90 = .ok (.aload_n 0, 1) := by decide +kernel
theorem dX12_isText_91 : decode cX12_isText 91 = .ok (.getfield 257, 3) := by decide +kernel
theorem dX12_isText_94 : decode cX12_isText 94 = .ok (.ifCond .ne 7, 3) := by decide +kernel
theorem dX12_isText_97 : decode cX12_isText 97 = .ok (.iconst 1, 1) := by decide +kernel
theorem dX12_isText_98 : decode cX12_isText 98 = .ok (.goto 4, 3) := by decide +kernel
theorem dX12_isText_101 : decode cX12_isText 101 = .ok (.iconst 0, 1) := by decide +kernel
theorem dX12_isText_102 : decode cX12_isText 102 = .ok (.ireturn, 1) := by decide +kernel
set_option maxRecDepth 20000 in
theorem ggX12_perform_X12_isText : GoodIn wsX12_perform wsX12_isText := goodIn_ca (goodIn_r _ [13, 4, 14, 5, 3, 15, 16, 17, 12, 18, 19, 20, 21, 22, 23, 24, 25, 26, 27, 28, 29, 30, 31, 32, 33, 34, 35, 36, 37, 38, 39, 40, 41, 42, 149, 150, 151, 152, 153, 154, 155, 156, 157, 158, 159, 160, 161, 162, 163, 164, 165, 166, 167, 168, 169, 170, 171, 172, 173, 174, 175] (by decide +kernel) (by decide +kernel)) (goodIn_sub (fun _ h => List.mem_cons_of_mem _ (List.mem_append_right _ h)) (by decide +kernel))
set_option maxRecDepth 20000 in
theorem gX12_perform_X12_isText : GoodIn wsX12_perform (wsV RX12 273 RX12 yX12_isText wsX12_isText) := goodIn_app (goodIn_of _ (by decide +kernel)) ggX12_perform_X12_isText
set_option maxRecDepth 20000 in
theorem ggX12_perform_X12_layAhead : GoodIn wsX12_perform wsX12_layAhead := goodIn_ca (goodIn_r _ [46, 8, 7, 149, 150, 151, 152, 153, 154, 155, 156, 157, 158, 159, 160, 161, 162, 163, 164, 165, 166, 167, 168, 169, 170, 171, 172, 173, 174, 175] (by decide +kernel) (by decide +kernel)) (goodIn_sub (fun _ h => List.mem_cons_of_mem _ (List.mem_append_right _ h)) (by decide +kernel))
set_option maxRecDepth 20000 in
theorem gX12_perform_X12_layAhead : GoodIn wsX12_perform (wsV RX12 159 RX12 yX12_layAhead wsX12_layAhead) := goodIn_app (goodIn_of _ (by decide +kernel)) ggX12_perform_X12_layAhead
set_option maxRecDepth 20000 in
theorem ggX12_perform_X12_refuse : GoodIn wsX12_perform wsX12_refuse := goodIn_r _ [142, 1, 149, 150, 151, 152, 153, 154, 155, 156, 157, 158, 159, 160, 161, 162, 163, 164, 165, 166, 167, 168, 169, 170, 171, 172, 173, 174, 175] (by decide +kernel) (by decide +kernel)
set_option maxRecDepth 20000 in
theorem gX12_perform_X12_refuse : GoodIn wsX12_perform (wsV RX12 79 RX12 yX12_refuse wsX12_refuse) := goodIn_app (goodIn_of _ (by decide +kernel)) ggX12_perform_X12_refuse
set_option maxRecDepth 20000 in
theorem ggX12_perform_X12_keepRow : GoodIn wsX12_perform wsX12_keepRow := goodIn_ca (goodIn_r _ [146, 147, 148, 149, 150, 151, 152, 153, 154, 155, 156, 157, 158, 159, 160, 161, 162, 163, 164, 165, 166, 167, 168, 169, 170, 171, 172, 173, 174, 175] (by decide +kernel) (by decide +kernel)) (goodIn_sub (fun _ h => List.mem_cons_of_mem _ (List.mem_append_right _ h)) (by decide +kernel))
set_option maxRecDepth 20000 in
theorem gX12_perform_X12_keepRow : GoodIn wsX12_perform (wsV RX12 68 RX12 yX12_keepRow wsX12_keepRow) := goodIn_app (goodIn_of _ (by decide +kernel)) ggX12_perform_X12_keepRow
theorem dX12_perform_0 : decode cX12_perform 0 = .ok (.aload_n 0, 1) := by decide +kernel
theorem dX12_perform_1 : decode cX12_perform 1 = .ok (.iconst 0, 1) := by decide +kernel
theorem dX12_perform_2 : decode cX12_perform 2 = .ok (.putfield 62, 3) := by decide +kernel
theorem dX12_perform_5 : decode cX12_perform 5 = .ok (.aload_n 0, 1) := by decide +kernel
theorem dX12_perform_6 : decode cX12_perform 6 = .ok (.aload_n 0, 1) := by decide +kernel
theorem dX12_perform_7 : decode cX12_perform 7 = .ok (.getfield 76, 3) := by decide +kernel
theorem dX12_perform_10 : decode cX12_perform 10 = .ok (.putfield 251, 3) := by decide +kernel
theorem dX12_perform_13 : decode cX12_perform 13 = .ok (.aload_n 0, 1) := by decide +kernel
theorem dX12_perform_14 : decode cX12_perform 14 = .ok (.iconst 0, 1) := by decide +kernel
theorem dX12_perform_15 : decode cX12_perform 15 = .ok (.putfield 76, 3) := by decide +kernel
theorem dX12_perform_18 : decode cX12_perform 18 = .ok (.aload_n 0, 1) := by decide +kernel
theorem dX12_perform_19 : decode cX12_perform 19 = .ok (.invokevirtual 273, 3) := by decide +kernel
theorem dX12_perform_22 : decode cX12_perform 22 = .ok (.ifCond .ne 11, 3) := by decide +kernel
theorem dX12_perform_25 : decode cX12_perform 25 = .ok (.bipush (-100), 2) := by decide +kernel
theorem dX12_perform_27 : decode cX12_perform 27 = .ok (.aload_n 0, 1) := by decide +kernel
theorem dX12_perform_28 : decode cX12_perform 28 = .ok (.getfield 248, 3) := by decide +kernel
theorem dX12_perform_31 : decode cX12_perform 31 = .ok (.isub, 1) := by decide +kernel
theorem dX12_perform_32 : decode cX12_perform 32 = .ok (.ireturn, 1) := by decide +kernel
theorem dX12_perform_33 : decode cX12_perform 33 = .ok (.aload_n 0, 1) := by decide +kernel
theorem dX12_perform_34 : decode cX12_perform 34 = .ok (.invokevirtual 159, 3) := by decide +kernel
theorem dX12_perform_37 : decode cX12_perform 37 = .ok (.iconst 0, 1) := by decide +kernel
theorem dX12_perform_38 : decode cX12_perform 38 = .ok (.istore_n 1, 1) := by decide +kernel
theorem dX12_perform_39 : decode cX12_perform 39 = .ok (.iload_n 1, 1) := by decide +kernel
theorem dX12_perform_40 : decode cX12_perform 40 = .ok (.aload_n 0, 1) := by decide +kernel
theorem dX12_perform_41 : decode cX12_perform 41 = .ok (.getfield 261, 3) := by decide +kernel
theorem dX12_perform_44 : decode cX12_perform 44 = .ok (.if_icmp .ge 62, 3) := by decide +kernel
theorem dX12_perform_47 : decode cX12_perform 47 = .ok (.aload_n 0, 1) := by decide +kernel
theorem dX12_perform_48 : decode cX12_perform 48 = .ok (.iload_n 1, 1) := by decide +kernel
theorem dX12_perform_49 : decode cX12_perform 49 = .ok (.putfield 28, 3) := by decide +kernel
theorem dX12_perform_52 : decode cX12_perform 52 = .ok (.aload_n 0, 1) := by decide +kernel
theorem dX12_perform_53 : decode cX12_perform 53 = .ok (.iload_n 1, 1) := by decide +kernel
theorem dX12_perform_54 : decode cX12_perform 54 = .ok (.invokevirtual 277, 3) := by decide +kernel
theorem dX12_perform_57 : decode cX12_perform 57 = .ok (.istore_n 2, 1) := by decide +kernel
theorem dX12_perform_58 : decode cX12_perform 58 = .ok (.aload_n 0, 1) := by decide +kernel
theorem dX12_perform_59 : decode cX12_perform 59 = .ok (.iconst (-1), 1) := by decide +kernel
theorem dX12_perform_60 : decode cX12_perform 60 = .ok (.putfield 28, 3) := by decide +kernel
theorem dX12_perform_63 : decode cX12_perform 63 = .ok (.iload_n 2, 1) := by decide +kernel
theorem dX12_perform_64 : decode cX12_perform 64 = .ok (.ifCond .ge 36, 3) := by decide +kernel
theorem dX12_perform_67 : decode cX12_perform 67 = .ok (.iconst 0, 1) := by decide +kernel
theorem dX12_perform_68 : decode cX12_perform 68 = .ok (.istore_n 3, 1) := by decide +kernel
theorem dX12_perform_69 : decode cX12_perform 69 = .ok (.iload_n 3, 1) := by decide +kernel
theorem dX12_perform_70 : decode cX12_perform 70 = .ok (.sipush 1191, 3) := by decide +kernel
theorem dX12_perform_73 : decode cX12_perform 73 = .ok (.if_icmp .ge 21, 3) := by decide +kernel
theorem dX12_perform_76 : decode cX12_perform 76 = .ok (.aload_n 0, 1) := by decide +kernel
theorem dX12_perform_77 : decode cX12_perform 77 = .ok (.getfield 9, 3) := by decide +kernel
theorem dX12_perform_80 : decode cX12_perform 80 = .ok (.iload_n 3, 1) := by decide +kernel
theorem dX12_perform_81 : decode cX12_perform 81 = .ok (.aload_n 0, 1) := by decide +kernel
theorem dX12_perform_82 : decode cX12_perform 82 = .ok (.getfield 32, 3) := by decide +kernel
theorem dX12_perform_85 : decode cX12_perform 85 = .ok (.iload_n 3, 1) := by decide +kernel
theorem dX12_perform_86 : decode cX12_perform 86 = .ok (.iaload, 1) := by decide +kernel
theorem dX12_perform_87 : decode cX12_perform 87 = .ok (.iastore, 1) := by decide +kernel
theorem dX12_perform_88 : decode cX12_perform 88 = .ok (.iinc 3 1, 3) := by decide +kernel
theorem dX12_perform_91 : decode cX12_perform 91 = .ok (.goto (-22), 3) := by decide +kernel
theorem dX12_perform_94 : decode cX12_perform 94 = .ok (.aload_n 0, 1) := by decide +kernel
theorem dX12_perform_95 : decode cX12_perform 95 = .ok (.iconst 1, 1) := by decide +kernel
theorem dX12_perform_96 : decode cX12_perform 96 = .ok (.invokevirtual 79, 3) := by decide +kernel
theorem dX12_perform_99 : decode cX12_perform 99 = .ok (.ireturn, 1) := by decide +kernel
theorem dX12_perform_100 : decode cX12_perform 100 = .ok (.iinc 1 1, 3) := by decide +kernel
theorem dX12_perform_103 : decode cX12_perform 103 = .ok (.goto (-64), 3) := by decide +kernel
theorem dX12_perform_106 : decode cX12_perform 106 = .ok (.aload_n 0, 1) := by decide +kernel
theorem dX12_perform_107 : decode cX12_perform 107 = .ok (.aload_n 0, 1) := by decide +kernel
theorem dX12_perform_108 : decode cX12_perform 108 = .ok (.getfield 32, 3) := by decide +kernel
theorem dX12_perform_111 : decode cX12_perform 111 = .ok (.invokevirtual 68, 3) := by decide +kernel
theorem dX12_perform_114 : decode cX12_perform 114 = .ok (.aload_n 0, 1) := by decide +kernel
theorem dX12_perform_115 : decode cX12_perform 115 = .ok (.getfield 261, 3) := by decide +kernel
theorem dX12_perform_118 : decode cX12_perform 118 = .ok (.ireturn, 1) := by decide +kernel
set_option maxRecDepth 20000 in
theorem ggX12_undo_X12_refuse : GoodIn wsX12_undo wsX12_refuse := goodIn_r _ [9, 1, 10, 11, 12, 13, 14, 15, 16, 17, 18, 19, 20, 21, 22, 23, 24, 25, 26, 27, 28, 29, 30, 31, 32, 33, 34, 35, 36] (by decide +kernel) (by decide +kernel)
set_option maxRecDepth 20000 in
theorem gX12_undo_X12_refuse : GoodIn wsX12_undo (wsV RX12 79 RX12 yX12_refuse wsX12_refuse) := goodIn_app (goodIn_of _ (by decide +kernel)) ggX12_undo_X12_refuse
theorem dX12_undo_0 : decode cX12_undo 0 = .ok (.aload_n 0, 1) := by decide +kernel
theorem dX12_undo_1 : decode cX12_undo 1 = .ok (.iconst 0, 1) := by decide +kernel
theorem dX12_undo_2 : decode cX12_undo 2 = .ok (.putfield 62, 3) := by decide +kernel
theorem dX12_undo_5 : decode cX12_undo 5 = .ok (.aload_n 0, 1) := by decide +kernel
theorem dX12_undo_6 : decode cX12_undo 6 = .ok (.getfield 65, 3) := by decide +kernel
theorem dX12_undo_9 : decode cX12_undo 9 = .ok (.ifCond .ne 9, 3) := by decide +kernel
theorem dX12_undo_12 : decode cX12_undo 12 = .ok (.aload_n 0, 1) := by decide +kernel
theorem dX12_undo_13 : decode cX12_undo 13 = .ok (.iconst 1, 1) := by decide +kernel
theorem dX12_undo_14 : decode cX12_undo 14 = .ok (.invokevirtual 79, 3) := by decide +kernel
theorem dX12_undo_17 : decode cX12_undo 17 = .ok (.ireturn, 1) := by decide +kernel
theorem dX12_undo_18 : decode cX12_undo 18 = .ok (.aload_n 0, 1) := by decide +kernel
theorem dX12_undo_19 : decode cX12_undo 19 = .ok (.dup, 1) := by decide +kernel
theorem dX12_undo_20 : decode cX12_undo 20 = .ok (.getfield 65, 3) := by decide +kernel
theorem dX12_undo_23 : decode cX12_undo 23 = .ok (.iconst 1, 1) := by decide +kernel
theorem dX12_undo_24 : decode cX12_undo 24 = .ok (.isub, 1) := by decide +kernel
theorem dX12_undo_25 : decode cX12_undo 25 = .ok (.putfield 65, 3) := by decide +kernel
theorem dX12_undo_28 : decode cX12_undo 28 = .ok (.iconst 0, 1) := by decide +kernel
theorem dX12_undo_29 : decode cX12_undo 29 = .ok (.istore_n 1, 1) := by decide +kernel
theorem dX12_undo_30 : decode cX12_undo 30 = .ok (.iload_n 1, 1) := by decide +kernel
theorem dX12_undo_31 : decode cX12_undo 31 = .ok (.sipush 1191, 3) := by decide +kernel
theorem dX12_undo_34 : decode cX12_undo 34 = .ok (.if_icmp .ge 30, 3) := by decide +kernel
theorem dX12_undo_37 : decode cX12_undo 37 = .ok (.aload_n 0, 1) := by decide +kernel
theorem dX12_undo_38 : decode cX12_undo 38 = .ok (.getfield 9, 3) := by decide +kernel
theorem dX12_undo_41 : decode cX12_undo 41 = .ok (.iload_n 1, 1) := by decide +kernel
theorem dX12_undo_42 : decode cX12_undo 42 = .ok (.aload_n 0, 1) := by decide +kernel
theorem dX12_undo_43 : decode cX12_undo 43 = .ok (.getfield 16, 3) := by decide +kernel
theorem dX12_undo_46 : decode cX12_undo 46 = .ok (.sipush 1191, 3) := by decide +kernel
theorem dX12_undo_49 : decode cX12_undo 49 = .ok (.aload_n 0, 1) := by decide +kernel
theorem dX12_undo_50 : decode cX12_undo 50 = .ok (.getfield 65, 3) := by decide +kernel
theorem dX12_undo_53 : decode cX12_undo 53 = .ok (.imul, 1) := by decide +kernel
theorem dX12_undo_54 : decode cX12_undo 54 = .ok (.iload_n 1, 1) := by decide +kernel
theorem dX12_undo_55 : decode cX12_undo 55 = .ok (.iadd, 1) := by decide +kernel
theorem dX12_undo_56 : decode cX12_undo 56 = .ok (.iaload, 1) := by decide +kernel
theorem dX12_undo_57 : decode cX12_undo 57 = .ok (.iastore, 1) := by decide +kernel
theorem dX12_undo_58 : decode cX12_undo 58 = .ok (.iinc 1 1, 3) := by decide +kernel
theorem dX12_undo_61 : decode cX12_undo 61 = .ok (.goto (-31), 3) := by decide +kernel
theorem dX12_undo_64 : decode cX12_undo 64 = .ok (.aload_n 0, 1) := by decide +kernel
theorem dX12_undo_65 : decode cX12_undo 65 = .ok (.getfield 65, 3) := by decide +kernel
theorem dX12_undo_68 : decode cX12_undo 68 = .ok (.ireturn, 1) := by decide +kernel
theorem dX12_save_0 : decode cX12_save 0 = .ok (.aload_n 0, 1) := by decide +kernel
theorem dX12_save_1 : decode cX12_save 1 = .ok (.iconst 0, 1) := by decide +kernel
theorem dX12_save_2 : decode cX12_save 2 = .ok (.putfield 62, 3) := by decide +kernel
theorem dX12_save_5 : decode cX12_save 5 = .ok (.iconst 0, 1) := by decide +kernel
theorem dX12_save_6 : decode cX12_save 6 = .ok (.istore_n 1, 1) := by decide +kernel
theorem dX12_save_7 : decode cX12_save 7 = .ok (.iload_n 1, 1) := by decide +kernel
theorem dX12_save_8 : decode cX12_save 8 = .ok (.sipush 1191, 3) := by decide +kernel
theorem dX12_save_11 : decode cX12_save 11 = .ok (.if_icmp .ge 21, 3) := by decide +kernel
theorem dX12_save_14 : decode cX12_save 14 = .ok (.aload_n 0, 1) := by decide +kernel
theorem dX12_save_15 : decode cX12_save 15 = .ok (.getfield 13, 3) := by decide +kernel
theorem dX12_save_18 : decode cX12_save 18 = .ok (.iload_n 1, 1) := by decide +kernel
theorem dX12_save_19 : decode cX12_save 19 = .ok (.aload_n 0, 1) := by decide +kernel
theorem dX12_save_20 : decode cX12_save 20 = .ok (.getfield 9, 3) := by decide +kernel
theorem dX12_save_23 : decode cX12_save 23 = .ok (.iload_n 1, 1) := by decide +kernel
theorem dX12_save_24 : decode cX12_save 24 = .ok (.iaload, 1) := by decide +kernel
theorem dX12_save_25 : decode cX12_save 25 = .ok (.iastore, 1) := by decide +kernel
theorem dX12_save_26 : decode cX12_save 26 = .ok (.iinc 1 1, 3) := by decide +kernel
theorem dX12_save_29 : decode cX12_save 29 = .ok (.goto (-22), 3) := by decide +kernel
theorem dX12_save_32 : decode cX12_save 32 = .ok (.aload_n 0, 1) := by decide +kernel
theorem dX12_save_33 : decode cX12_save 33 = .ok (.iconst 1, 1) := by decide +kernel
theorem dX12_save_34 : decode cX12_save 34 = .ok (.putfield 280, 3) := by decide +kernel
theorem dX12_save_37 : decode cX12_save 37 = .ok (.aload_n 0, 1) := by decide +kernel
theorem dX12_save_38 : decode cX12_save 38 = .ok (.getfield 9, 3) := by decide +kernel
theorem dX12_save_41 : decode cX12_save 41 = .ok (.bipush 37, 2) := by decide +kernel
theorem dX12_save_43 : decode cX12_save 43 = .ok (.iaload, 1) := by decide +kernel
theorem dX12_save_44 : decode cX12_save 44 = .ok (.ireturn, 1) := by decide +kernel
set_option maxRecDepth 20000 in
theorem ggX12_restore_X12_refuse : GoodIn wsX12_restore wsX12_refuse := goodIn_r _ [10, 1, 11, 12, 13, 14, 15, 16, 17, 18, 19, 20, 21, 22, 23, 24, 25, 26, 27, 28, 29, 30, 31, 32, 33, 34, 35, 36, 37] (by decide +kernel) (by decide +kernel)
set_option maxRecDepth 20000 in
theorem gX12_restore_X12_refuse : GoodIn wsX12_restore (wsV RX12 79 RX12 yX12_refuse wsX12_refuse) := goodIn_app (goodIn_of _ (by decide +kernel)) ggX12_restore_X12_refuse
theorem dX12_restore_0 : decode cX12_restore 0 = .ok (.aload_n 0, 1) := by decide +kernel
theorem dX12_restore_1 : decode cX12_restore 1 = .ok (.iconst 0, 1) := by decide +kernel
theorem dX12_restore_2 : decode cX12_restore 2 = .ok (.putfield 62, 3) := by decide +kernel
theorem dX12_restore_5 : decode cX12_restore 5 = .ok (.aload_n 0, 1) := by decide +kernel
theorem dX12_restore_6 : decode cX12_restore 6 = .ok (.getfield 280, 3) := by decide +kernel
theorem dX12_restore_9 : decode cX12_restore 9 = .ok (.ifCond .ne 9, 3) := by decide +kernel
theorem dX12_restore_12 : decode cX12_restore 12 = .ok (.aload_n 0, 1) := by decide +kernel
theorem dX12_restore_13 : decode cX12_restore 13 = .ok (.iconst 1, 1) := by decide +kernel
theorem dX12_restore_14 : decode cX12_restore 14 = .ok (.invokevirtual 79, 3) := by decide +kernel
theorem dX12_restore_17 : decode cX12_restore 17 = .ok (.ireturn, 1) := by decide +kernel
theorem dX12_restore_18 : decode cX12_restore 18 = .ok (.iconst 0, 1) := by decide +kernel
theorem dX12_restore_19 : decode cX12_restore 19 = .ok (.istore_n 1, 1) := by decide +kernel
theorem dX12_restore_20 : decode cX12_restore 20 = .ok (.iload_n 1, 1) := by decide +kernel
theorem dX12_restore_21 : decode cX12_restore 21 = .ok (.sipush 1191, 3) := by decide +kernel
theorem dX12_restore_24 : decode cX12_restore 24 = .ok (.if_icmp .ge 21, 3) := by decide +kernel
theorem dX12_restore_27 : decode cX12_restore 27 = .ok (.aload_n 0, 1) := by decide +kernel
theorem dX12_restore_28 : decode cX12_restore 28 = .ok (.getfield 9, 3) := by decide +kernel
theorem dX12_restore_31 : decode cX12_restore 31 = .ok (.iload_n 1, 1) := by decide +kernel
theorem dX12_restore_32 : decode cX12_restore 32 = .ok (.aload_n 0, 1) := by decide +kernel
theorem dX12_restore_33 : decode cX12_restore 33 = .ok (.getfield 13, 3) := by decide +kernel
theorem dX12_restore_36 : decode cX12_restore 36 = .ok (.iload_n 1, 1) := by decide +kernel
theorem dX12_restore_37 : decode cX12_restore 37 = .ok (.iaload, 1) := by decide +kernel
theorem dX12_restore_38 : decode cX12_restore 38 = .ok (.iastore, 1) := by decide +kernel
theorem dX12_restore_39 : decode cX12_restore 39 = .ok (.iinc 1 1, 3) := by decide +kernel
theorem dX12_restore_42 : decode cX12_restore 42 = .ok (.goto (-22), 3) := by decide +kernel
theorem dX12_restore_45 : decode cX12_restore 45 = .ok (.aload_n 0, 1) := by decide +kernel
theorem dX12_restore_46 : decode cX12_restore 46 = .ok (.iconst 0, 1) := by decide +kernel
theorem dX12_restore_47 : decode cX12_restore 47 = .ok (.putfield 65, 3) := by decide +kernel
theorem dX12_restore_50 : decode cX12_restore 50 = .ok (.aload_n 0, 1) := by decide +kernel
theorem dX12_restore_51 : decode cX12_restore 51 = .ok (.getfield 9, 3) := by decide +kernel
theorem dX12_restore_54 : decode cX12_restore 54 = .ok (.bipush 37, 2) := by decide +kernel
theorem dX12_restore_56 : decode cX12_restore 56 = .ok (.iaload, 1) := by decide +kernel
theorem dX12_restore_57 : decode cX12_restore 57 = .ok (.ireturn, 1) := by decide +kernel
