theorem dX6_init_0 : decode cX6_init 0 = .ok (.aload_n 0, 1) := by decide +kernel
theorem dX6_init_1 : decode cX6_init 1 = .ok (.invokespecial 3, 3) := by decide +kernel
theorem dX6_init_4 : decode cX6_init 4 = .ok (.aload_n 0, 1) := by decide +kernel
theorem dX6_init_5 : decode cX6_init 5 = .ok (.sipush 1152, 3) := by decide +kernel
theorem dX6_init_8 : decode cX6_init 8 = .ok (.newarray .int, 2) := by decide +kernel
theorem dX6_init_10 : decode cX6_init 10 = .ok (.putfield 9, 3) := by decide +kernel
theorem dX6_init_13 : decode cX6_init 13 = .ok (.aload_n 0, 1) := by decide +kernel
theorem dX6_init_14 : decode cX6_init 14 = .ok (.bipush 80, 2) := by decide +kernel
theorem dX6_init_16 : decode cX6_init 16 = .ok (.newarray .int, 2) := by decide +kernel
theorem dX6_init_18 : decode cX6_init 18 = .ok (.putfield 15, 3) := by decide +kernel
theorem dX6_init_21 : decode cX6_init 21 = .ok (.aload_n 0, 1) := by decide +kernel
theorem dX6_init_22 : decode cX6_init 22 = .ok (.sipush 288, 3) := by decide +kernel
theorem dX6_init_25 : decode cX6_init 25 = .ok (.newarray .int, 2) := by decide +kernel
theorem dX6_init_27 : decode cX6_init 27 = .ok (.putfield 18, 3) := by decide +kernel
theorem dX6_init_30 : decode cX6_init 30 = .ok (.return_, 1) := by decide +kernel
theorem dX6_become_0 : decode cX6_become 0 = .ok (.aload_n 0, 1) := by decide +kernel
theorem dX6_become_1 : decode cX6_become 1 = .ok (.aload_n 1, 1) := by decide +kernel
theorem dX6_become_2 : decode cX6_become 2 = .ok (.getfield 21, 3) := by decide +kernel
theorem dX6_become_5 : decode cX6_become 5 = .ok (.putfield 21, 3) := by decide +kernel
theorem dX6_become_8 : decode cX6_become 8 = .ok (.aload_n 0, 1) := by decide +kernel
theorem dX6_become_9 : decode cX6_become 9 = .ok (.aload_n 1, 1) := by decide +kernel
theorem dX6_become_10 : decode cX6_become 10 = .ok (.getfield 25, 3) := by decide +kernel
theorem dX6_become_13 : decode cX6_become 13 = .ok (.putfield 25, 3) := by decide +kernel
theorem dX6_become_16 : decode cX6_become 16 = .ok (.aload_n 1, 1) := by decide +kernel
theorem dX6_become_17 : decode cX6_become 17 = .ok (.getfield 9, 3) := by decide +kernel
theorem dX6_become_20 : decode cX6_become 20 = .ok (.iconst 0, 1) := by decide +kernel
theorem dX6_become_21 : decode cX6_become 21 = .ok (.aload_n 0, 1) := by decide +kernel
theorem dX6_become_22 : decode cX6_become 22 = .ok (.getfield 9, 3) := by decide +kernel
theorem dX6_become_25 : decode cX6_become 25 = .ok (.iconst 0, 1) := by decide +kernel
theorem dX6_become_26 : decode cX6_become 26 = .ok (.aload_n 0, 1) := by decide +kernel
theorem dX6_become_27 : decode cX6_become 27 = .ok (.getfield 9, 3) := by decide +kernel
theorem dX6_become_30 : decode cX6_become 30 = .ok (.arraylength, 1) := by decide +kernel
theorem dX6_become_31 : decode cX6_become 31 = .ok (.invokestatic 28, 3) := by decide +kernel
theorem dX6_become_34 : decode cX6_become 34 = .ok (.aload_n 1, 1) := by decide +kernel
theorem dX6_become_35 : decode cX6_become 35 = .ok (.getfield 15, 3) := by decide +kernel
theorem dX6_become_38 : decode cX6_become 38 = .ok (.iconst 0, 1) := by decide +kernel
theorem dX6_become_39 : decode cX6_become 39 = .ok (.aload_n 0, 1) := by decide +kernel
theorem dX6_become_40 : decode cX6_become 40 = .ok (.getfield 15, 3) := by decide +kernel
theorem dX6_become_43 : decode cX6_become 43 = .ok (.iconst 0, 1) := by decide +kernel
theorem dX6_become_44 : decode cX6_become 44 = .ok (.aload_n 0, 1) := by decide +kernel
theorem dX6_become_45 : decode cX6_become 45 = .ok (.getfield 15, 3) := by decide +kernel
theorem dX6_become_48 : decode cX6_become 48 = .ok (.arraylength, 1) := by decide +kernel
theorem dX6_become_49 : decode cX6_become 49 = .ok (.invokestatic 28, 3) := by decide +kernel
theorem dX6_become_52 : decode cX6_become 52 = .ok (.aload_n 1, 1) := by decide +kernel
theorem dX6_become_53 : decode cX6_become 53 = .ok (.getfield 18, 3) := by decide +kernel
theorem dX6_become_56 : decode cX6_become 56 = .ok (.iconst 0, 1) := by decide +kernel
theorem dX6_become_57 : decode cX6_become 57 = .ok (.aload_n 0, 1) := by decide +kernel
theorem dX6_become_58 : decode cX6_become 58 = .ok (.getfield 18, 3) := by decide +kernel
theorem dX6_become_61 : decode cX6_become 61 = .ok (.iconst 0, 1) := by decide +kernel
theorem dX6_become_62 : decode cX6_become 62 = .ok (.aload_n 0, 1) := by decide +kernel
theorem dX6_become_63 : decode cX6_become 63 = .ok (.getfield 18, 3) := by decide +kernel
theorem dX6_become_66 : decode cX6_become 66 = .ok (.arraylength, 1) := by decide +kernel
theorem dX6_become_67 : decode cX6_become 67 = .ok (.invokestatic 28, 3) := by decide +kernel
theorem dX6_become_70 : decode cX6_become 70 = .ok (.return_, 1) := by decide +kernel
theorem dX6_isTunnel_0 : decode cX6_isTunnel 0 = .ok (.iload_n 1, 1) := by decide +kernel
theorem dX6_isTunnel_1 : decode cX6_isTunnel 1 = .ok (.iconst (-1), 1) := by decide +kernel
theorem dX6_isTunnel_2 : decode cX6_isTunnel 2 = .ok (.if_icmp .eq 22, 3) := by decide +kernel
theorem dX6_isTunnel_5 : decode cX6_isTunnel 5 = .ok (.aload_n 0, 1) := by decide +kernel
theorem dX6_isTunnel_6 : decode cX6_isTunnel 6 = .ok (.getfield 9, 3) := by decide +kernel
theorem dX6_isTunnel_9 : decode cX6_isTunnel 9 = .ok (.bipush 8, 2) := by decide +kernel
theorem dX6_isTunnel_11 : decode cX6_isTunnel 11 = .ok (.iload_n 1, 1) := by decide +kernel
theorem dX6_isTunnel_12 : decode cX6_isTunnel 12 = .ok (.imul, 1) := by decide +kernel
theorem dX6_isTunnel_13 : decode cX6_isTunnel 13 = .ok (.iconst 2, 1) := by decide +kernel
theorem dX6_isTunnel_14 : decode cX6_isTunnel 14 = .ok (.iadd, 1) := by decide +kernel
theorem dX6_isTunnel_15 : decode cX6_isTunnel 15 = .ok (.iaload, 1) := by decide +kernel
theorem dX6_isTunnel_16 : decode cX6_isTunnel 16 = .ok (.iconst 1, 1) := by decide +kernel
theorem dX6_isTunnel_17 : decode cX6_isTunnel 17 = .ok (.if_icmp .ne 7, 3) := by decide +kernel
theorem dX6_isTunnel_20 : decode cX6_isTunnel 20 = .ok (.iconst 1, 1) := by decide +kernel
theorem dX6_isTunnel_21 : decode cX6_isTunnel 21 = .ok (.goto 4, 3) := by decide +kernel
theorem dX6_isTunnel_24 : decode cX6_isTunnel 24 = .ok (.iconst 0, 1) := by decide +kernel
theorem dX6_isTunnel_25 : decode cX6_isTunnel 25 = .ok (.ireturn, 1) := by decide +kernel
theorem dX6_open_0 : decode cX6_open 0 = .ok (.aload_n 0, 1) := by decide +kernel
theorem dX6_open_1 : decode cX6_open 1 = .ok (.getfield 9, 3) := by decide +kernel
theorem dX6_open_4 : decode cX6_open 4 = .ok (.bipush 8, 2) := by decide +kernel
theorem dX6_open_6 : decode cX6_open 6 = .ok (.iload_n 1, 1) := by decide +kernel
theorem dX6_open_7 : decode cX6_open 7 = .ok (.imul, 1) := by decide +kernel
theorem dX6_open_8 : decode cX6_open 8 = .ok (.iconst 2, 1) := by decide +kernel
theorem dX6_open_9 : decode cX6_open 9 = .ok (.iadd, 1) := by decide +kernel
theorem dX6_open_10 : decode cX6_open 10 = .ok (.iconst 1, 1) := by decide +kernel
theorem dX6_open_11 : decode cX6_open 11 = .ok (.iastore, 1) := by decide +kernel
theorem dX6_open_12 : decode cX6_open 12 = .ok (.iconst 3, 1) := by decide +kernel
theorem dX6_open_13 : decode cX6_open 13 = .ok (.istore_n 2, 1) := by decide +kernel
theorem dX6_open_14 : decode cX6_open 14 = .ok (.iload_n 2, 1) := by decide +kernel
theorem dX6_open_15 : decode cX6_open 15 = .ok (.bipush 8, 2) := by decide +kernel
theorem dX6_open_17 : decode cX6_open 17 = .ok (.if_icmp .ge 21, 3) := by decide +kernel
theorem dX6_open_20 : decode cX6_open 20 = .ok (.aload_n 0, 1) := by decide +kernel
theorem dX6_open_21 : decode cX6_open 21 = .ok (.getfield 9, 3) := by decide +kernel
theorem dX6_open_24 : decode cX6_open 24 = .ok (.bipush 8, 2) := by decide +kernel
theorem dX6_open_26 : decode cX6_open 26 = .ok (.iload_n 1, 1) := by decide +kernel
theorem dX6_open_27 : decode cX6_open 27 = .ok (.imul, 1) := by decide +kernel
theorem dX6_open_28 : decode cX6_open 28 = .ok (.iload_n 2, 1) := by decide +kernel
theorem dX6_open_29 : decode cX6_open 29 = .ok (.iadd, 1) := by decide +kernel
theorem dX6_open_30 : decode cX6_open 30 = .ok (.iconst 0, 1) := by decide +kernel
theorem dX6_open_31 : decode cX6_open 31 = .ok (.iastore, 1) := by decide +kernel
theorem dX6_open_32 : decode cX6_open 32 = .ok (.iinc 2 1, 3) := by decide +kernel
theorem dX6_open_35 : decode cX6_open 35 = .ok (.goto (-21), 3) := by decide +kernel
theorem dX6_open_38 : decode cX6_open 38 = .ok (.return_, 1) := by decide +kernel
set_option maxRecDepth 100000 in
theorem ggX7_init_X6_init : GoodIn wsX7_init wsX6_init := goodIn_r _ [20, 21, 2, 3, 4, 22, 23, 24, 39, 40, 41, 42, 43] rfl (by decide +kernel)
set_option maxRecDepth 100000 in
theorem gX7_init_X6_init_n37 : GoodIn wsX7_init (wsX6_init) := ggX7_init_X6_init
theorem dX7_init_0 : decode cX7_init 0 = .ok (.aload_n 0, 1) := by decide +kernel
theorem dX7_init_1 : decode cX7_init 1 = .ok (.invokespecial 1, 3) := by decide +kernel
theorem dX7_init_4 : decode cX7_init 4 = .ok (.aload_n 0, 1) := by decide +kernel
theorem dX7_init_5 : decode cX7_init 5 = .ok (.sipush 200, 3) := by decide +kernel
theorem dX7_init_8 : decode cX7_init 8 = .ok (.newarray .int, 2) := by decide +kernel
theorem dX7_init_10 : decode cX7_init 10 = .ok (.putfield 9, 3) := by decide +kernel
theorem dX7_init_13 : decode cX7_init 13 = .ok (.aload_n 0, 1) := by decide +kernel
theorem dX7_init_14 : decode cX7_init 14 = .ok (.sipush 156, 3) := by decide +kernel
theorem dX7_init_17 : decode cX7_init 17 = .ok (.newarray .int, 2) := by decide +kernel
theorem dX7_init_19 : decode cX7_init 19 = .ok (.putfield 13, 3) := by decide +kernel
theorem dX7_init_22 : decode cX7_init 22 = .ok (.aload_n 0, 1) := by decide +kernel
theorem dX7_init_23 : decode cX7_init 23 = .ok (.sipush 144, 3) := by decide +kernel
theorem dX7_init_26 : decode cX7_init 26 = .ok (.newarray .int, 2) := by decide +kernel
theorem dX7_init_28 : decode cX7_init 28 = .ok (.putfield 16, 3) := by decide +kernel
theorem dX7_init_31 : decode cX7_init 31 = .ok (.aload_n 0, 1) := by decide +kernel
theorem dX7_init_32 : decode cX7_init 32 = .ok (.sipush 144, 3) := by decide +kernel
theorem dX7_init_35 : decode cX7_init 35 = .ok (.newarray .int, 2) := by decide +kernel
theorem dX7_init_37 : decode cX7_init 37 = .ok (.putfield 19, 3) := by decide +kernel
theorem dX7_init_40 : decode cX7_init 40 = .ok (.aload_n 0, 1) := by decide +kernel
theorem dX7_init_41 : decode cX7_init 41 = .ok (.sipush 144, 3) := by decide +kernel
theorem dX7_init_44 : decode cX7_init 44 = .ok (.newarray .int, 2) := by decide +kernel
theorem dX7_init_46 : decode cX7_init 46 = .ok (.putfield 22, 3) := by decide +kernel
theorem dX7_init_49 : decode cX7_init 49 = .ok (.aload_n 0, 1) := by decide +kernel
theorem dX7_init_50 : decode cX7_init 50 = .ok (.bipush 8, 2) := by decide +kernel
theorem dX7_init_52 : decode cX7_init 52 = .ok (.newarray .int, 2) := by decide +kernel
theorem dX7_init_54 : decode cX7_init 54 = .ok (.putfield 25, 3) := by decide +kernel
theorem dX7_init_57 : decode cX7_init 57 = .ok (.aload_n 0, 1) := by decide +kernel
theorem dX7_init_58 : decode cX7_init 58 = .ok (.bipush 8, 2) := by decide +kernel
theorem dX7_init_60 : decode cX7_init 60 = .ok (.newarray .boolean, 2) := by decide +kernel
theorem dX7_init_62 : decode cX7_init 62 = .ok (.putfield 28, 3) := by decide +kernel
theorem dX7_init_65 : decode cX7_init 65 = .ok (.aload_n 0, 1) := by decide +kernel
theorem dX7_init_66 : decode cX7_init 66 = .ok (.bipush 8, 2) := by decide +kernel
theorem dX7_init_68 : decode cX7_init 68 = .ok (.newarray .boolean, 2) := by decide +kernel
theorem dX7_init_70 : decode cX7_init 70 = .ok (.putfield 32, 3) := by decide +kernel
theorem dX7_init_73 : decode cX7_init 73 = .ok (.aload_n 0, 1) := by decide +kernel
theorem dX7_init_74 : decode cX7_init 74 = .ok (.new 35, 3) := by decide +kernel
theorem dX7_init_77 : decode cX7_init 77 = .ok (.dup, 1) := by decide +kernel
theorem dX7_init_78 : decode cX7_init 78 = .ok (.invokespecial 37, 3) := by decide +kernel
theorem dX7_init_81 : decode cX7_init 81 = .ok (.putfield 38, 3) := by decide +kernel
theorem dX7_init_84 : decode cX7_init 84 = .ok (.aload_n 0, 1) := by decide +kernel
theorem dX7_init_85 : decode cX7_init 85 = .ok (.new 35, 3) := by decide +kernel
theorem dX7_init_88 : decode cX7_init 88 = .ok (.dup, 1) := by decide +kernel
theorem dX7_init_89 : decode cX7_init 89 = .ok (.invokespecial 37, 3) := by decide +kernel
theorem dX7_init_92 : decode cX7_init 92 = .ok (.putfield 42, 3) := by decide +kernel
theorem dX7_init_95 : decode cX7_init 95 = .ok (.iconst 0, 1) := by decide +kernel
theorem dX7_init_96 : decode cX7_init 96 = .ok (.istore_n 1, 1) := by decide +kernel
theorem dX7_init_97 : decode cX7_init 97 = .ok (.iload_n 1, 1) := by decide +kernel
theorem dX7_init_98 : decode cX7_init 98 = .ok (.sipush 144, 3) := by decide +kernel
theorem dX7_init_101 : decode cX7_init 101 = .ok (.if_icmp .ge 37, 3) := by decide +kernel
theorem dX7_init_104 : decode cX7_init 104 = .ok (.aload_n 0, 1) := by decide +kernel
theorem dX7_init_105 : decode cX7_init 105 = .ok (.getfield 38, 3) := by decide +kernel
theorem dX7_init_108 : decode cX7_init 108 = .ok (.getfield 45, 3) := by decide +kernel
theorem dX7_init_111 : decode cX7_init 111 = .ok (.bipush 8, 2) := by decide +kernel
theorem dX7_init_113 : decode cX7_init 113 = .ok (.iload_n 1, 1) := by decide +kernel
theorem dX7_init_114 : decode cX7_init 114 = .ok (.imul, 1) := by decide +kernel
theorem dX7_init_115 : decode cX7_init 115 = .ok (.iconst 3, 1) := by decide +kernel
theorem dX7_init_116 : decode cX7_init 116 = .ok (.iastore, 1) := by decide +kernel
theorem dX7_init_117 : decode cX7_init 117 = .ok (.aload_n 0, 1) := by decide +kernel
theorem dX7_init_118 : decode cX7_init 118 = .ok (.getfield 38, 3) := by decide +kernel
theorem dX7_init_121 : decode cX7_init 121 = .ok (.getfield 45, 3) := by decide +kernel
theorem dX7_init_124 : decode cX7_init 124 = .ok (.bipush 8, 2) := by decide +kernel
theorem dX7_init_126 : decode cX7_init 126 = .ok (.iload_n 1, 1) := by decide +kernel
theorem dX7_init_127 : decode cX7_init 127 = .ok (.imul, 1) := by decide +kernel
theorem dX7_init_128 : decode cX7_init 128 = .ok (.iconst 1, 1) := by decide +kernel
theorem dX7_init_129 : decode cX7_init 129 = .ok (.iadd, 1) := by decide +kernel
theorem dX7_init_130 : decode cX7_init 130 = .ok (.iconst (-1), 1) := by decide +kernel
theorem dX7_init_131 : decode cX7_init 131 = .ok (.iastore, 1) := by decide +kernel
theorem dX7_init_132 : decode cX7_init 132 = .ok (.iinc 1 1, 3) := by decide +kernel
theorem dX7_init_135 : decode cX7_init 135 = .ok (.goto (-38), 3) := by decide +kernel
theorem dX7_init_138 : decode cX7_init 138 = .ok (.return_, 1) := by decide +kernel
theorem dX7_thrown_0 : decode cX7_thrown 0 = .ok (.aload_n 0, 1) := by decide +kernel
theorem dX7_thrown_1 : decode cX7_thrown 1 = .ok (.getfield 48, 3) := by decide +kernel
theorem dX7_thrown_4 : decode cX7_thrown 4 = .ok (.ireturn, 1) := by decide +kernel
theorem dX7_no_0 : decode cX7_no 0 = .ok (.aload_n 0, 1) := by decide +kernel
theorem dX7_no_1 : decode cX7_no 1 = .ok (.iload_n 1, 1) := by decide +kernel
theorem dX7_no_2 : decode cX7_no 2 = .ok (.putfield 48, 3) := by decide +kernel
theorem dX7_no_5 : decode cX7_no 5 = .ok (.iconst 0, 1) := by decide +kernel
theorem dX7_no_6 : decode cX7_no 6 = .ok (.ireturn, 1) := by decide +kernel
theorem dX7_isIn_0 : decode cX7_isIn 0 = .ok (.iload_n 0, 1) := by decide +kernel
theorem dX7_isIn_1 : decode cX7_isIn 1 = .ok (.iload_n 1, 1) := by decide +kernel
theorem dX7_isIn_2 : decode cX7_isIn 2 = .ok (.if_icmp .lt 12, 3) := by decide +kernel
theorem dX7_isIn_5 : decode cX7_isIn 5 = .ok (.iload_n 0, 1) := by decide +kernel
theorem dX7_isIn_6 : decode cX7_isIn 6 = .ok (.iload_n 2, 1) := by decide +kernel
theorem dX7_isIn_7 : decode cX7_isIn 7 = .ok (.if_icmp .gt 7, 3) := by decide +kernel
theorem dX7_isIn_10 : decode cX7_isIn 10 = .ok (.iconst 1, 1) := by decide +kernel
theorem dX7_isIn_11 : decode cX7_isIn 11 = .ok (.goto 4, 3) := by decide +kernel
theorem dX7_isIn_14 : decode cX7_isIn 14 = .ok (.iconst 0, 1) := by decide +kernel
theorem dX7_isIn_15 : decode cX7_isIn 15 = .ok (.ireturn, 1) := by decide +kernel
set_option maxRecDepth 100000 in
theorem ggX7_isCell_X7_isIn : GoodIn wsX7_isCell wsX7_isIn := goodIn_r _ [4] rfl (by decide +kernel)
set_option maxRecDepth 100000 in
theorem gX7_isCell_X7_isIn : GoodIn wsX7_isCell (va_wsS RX7 52 yX7_isIn wsX7_isIn) := goodIn_app (goodIn_of _ (by decide +kernel)) ggX7_isCell_X7_isIn
theorem dX7_isCell_0 : decode cX7_isCell 0 = .ok (.iload_n 0, 1) := by decide +kernel
theorem dX7_isCell_1 : decode cX7_isCell 1 = .ok (.iconst 0, 1) := by decide +kernel
theorem dX7_isCell_2 : decode cX7_isCell 2 = .ok (.bipush 11, 2) := by decide +kernel
theorem dX7_isCell_4 : decode cX7_isCell 4 = .ok (.invokestatic 52, 3) := by decide +kernel
theorem dX7_isCell_7 : decode cX7_isCell 7 = .ok (.ifCond .eq 17, 3) := by decide +kernel
theorem dX7_isCell_10 : decode cX7_isCell 10 = .ok (.iload_n 1, 1) := by decide +kernel
theorem dX7_isCell_11 : decode cX7_isCell 11 = .ok (.iconst 0, 1) := by decide +kernel
theorem dX7_isCell_12 : decode cX7_isCell 12 = .ok (.bipush 11, 2) := by decide +kernel
theorem dX7_isCell_14 : decode cX7_isCell 14 = .ok (.invokestatic 52, 3) := by decide +kernel
theorem dX7_isCell_17 : decode cX7_isCell 17 = .ok (.ifCond .eq 7, 3) := by decide +kernel
theorem dX7_isCell_20 : decode cX7_isCell 20 = .ok (.iconst 1, 1) := by decide +kernel
theorem dX7_isCell_21 : decode cX7_isCell 21 = .ok (.goto 4, 3) := by decide +kernel
theorem dX7_isCell_24 : decode cX7_isCell 24 = .ok (.iconst 0, 1) := by decide +kernel
theorem dX7_isCell_25 : decode cX7_isCell 25 = .ok (.ireturn, 1) := by decide +kernel
set_option maxRecDepth 100000 in
theorem ggX7_isTeam_X7_isIn : GoodIn wsX7_isTeam wsX7_isIn := goodIn_r _ [5] rfl (by decide +kernel)
set_option maxRecDepth 100000 in
theorem gX7_isTeam_X7_isIn : GoodIn wsX7_isTeam (va_wsS RX7 52 yX7_isIn wsX7_isIn) := goodIn_app (goodIn_of _ (by decide +kernel)) ggX7_isTeam_X7_isIn
theorem dX7_isTeam_0 : decode cX7_isTeam 0 = .ok (.iload_n 1, 1) := by decide +kernel
theorem dX7_isTeam_1 : decode cX7_isTeam 1 = .ok (.iconst 0, 1) := by decide +kernel
theorem dX7_isTeam_2 : decode cX7_isTeam 2 = .ok (.aload_n 0, 1) := by decide +kernel
theorem dX7_isTeam_3 : decode cX7_isTeam 3 = .ok (.getfield 56, 3) := by decide +kernel
theorem dX7_isTeam_6 : decode cX7_isTeam 6 = .ok (.iconst 1, 1) := by decide +kernel
theorem dX7_isTeam_7 : decode cX7_isTeam 7 = .ok (.isub, 1) := by decide +kernel
theorem dX7_isTeam_8 : decode cX7_isTeam 8 = .ok (.invokestatic 52, 3) := by decide +kernel
theorem dX7_isTeam_11 : decode cX7_isTeam 11 = .ok (.ireturn, 1) := by decide +kernel
theorem dX7_feed_0 : decode cX7_feed 0 = .ok (.aload_n 0, 1) := by decide +kernel
theorem dX7_feed_1 : decode cX7_feed 1 = .ok (.iconst 0, 1) := by decide +kernel
theorem dX7_feed_2 : decode cX7_feed 2 = .ok (.putfield 48, 3) := by decide +kernel
theorem dX7_feed_5 : decode cX7_feed 5 = .ok (.aload_n 0, 1) := by decide +kernel
theorem dX7_feed_6 : decode cX7_feed 6 = .ok (.getfield 69, 3) := by decide +kernel
theorem dX7_feed_9 : decode cX7_feed 9 = .ok (.bipush 20, 2) := by decide +kernel
theorem dX7_feed_11 : decode cX7_feed 11 = .ok (.iadd, 1) := by decide +kernel
theorem dX7_feed_12 : decode cX7_feed 12 = .ok (.sipush 200, 3) := by decide +kernel
theorem dX7_feed_15 : decode cX7_feed 15 = .ok (.if_icmp .le 9, 3) := by decide +kernel
theorem dX7_feed_18 : decode cX7_feed 18 = .ok (.aload_n 0, 1) := by decide +kernel
theorem dX7_feed_19 : decode cX7_feed 19 = .ok (.iconst 1, 1) := by decide +kernel
theorem dX7_feed_20 : decode cX7_feed 20 = .ok (.invokevirtual 72, 3) := by decide +kernel
theorem dX7_feed_23 : decode cX7_feed 23 = .ok (.ireturn, 1) := by decide +kernel
theorem dX7_feed_24 : decode cX7_feed 24 = .ok (.iconst 5, 1) := by decide +kernel
theorem dX7_feed_25 : decode cX7_feed 25 = .ok (.newarray .int, 2) := by decide +kernel
theorem dX7_feed_27 : decode cX7_feed 27 = .ok (.dup, 1) := by decide +kernel
theorem dX7_feed_28 : decode cX7_feed 28 = .ok (.iconst 0, 1) := by decide +kernel
theorem dX7_feed_29 : decode cX7_feed 29 = .ok (.iload_n 1, 1) := by decide +kernel
theorem dX7_feed_30 : decode cX7_feed 30 = .ok (.iastore, 1) := by decide +kernel
theorem dX7_feed_31 : decode cX7_feed 31 = .ok (.dup, 1) := by decide +kernel
theorem dX7_feed_32 : decode cX7_feed 32 = .ok (.iconst 1, 1) := by decide +kernel
theorem dX7_feed_33 : decode cX7_feed 33 = .ok (.iload_n 2, 1) := by decide +kernel
theorem dX7_feed_34 : decode cX7_feed 34 = .ok (.iastore, 1) := by decide +kernel
theorem dX7_feed_35 : decode cX7_feed 35 = .ok (.dup, 1) := by decide +kernel
theorem dX7_feed_36 : decode cX7_feed 36 = .ok (.iconst 2, 1) := by decide +kernel
theorem dX7_feed_37 : decode cX7_feed 37 = .ok (.iload_n 3, 1) := by decide +kernel
theorem dX7_feed_38 : decode cX7_feed 38 = .ok (.iastore, 1) := by decide +kernel
theorem dX7_feed_39 : decode cX7_feed 39 = .ok (.dup, 1) := by decide +kernel
theorem dX7_feed_40 : decode cX7_feed 40 = .ok (.iconst 3, 1) := by decide +kernel
theorem dX7_feed_41 : decode cX7_feed 41 = .ok (.iload 4, 2) := by decide +kernel
theorem dX7_feed_43 : decode cX7_feed 43 = .ok (.iastore, 1) := by decide +kernel
theorem dX7_feed_44 : decode cX7_feed 44 = .ok (.dup, 1) := by decide +kernel
theorem dX7_feed_45 : decode cX7_feed 45 = .ok (.iconst 4, 1) := by decide +kernel
theorem dX7_feed_46 : decode cX7_feed 46 = .ok (.iload 5, 2) := by decide +kernel
theorem dX7_feed_48 : decode cX7_feed 48 = .ok (.iastore, 1) := by decide +kernel
theorem dX7_feed_49 : decode cX7_feed 49 = .ok (.astore 6, 2) := by decide +kernel
theorem dX7_feed_51 : decode cX7_feed 51 = .ok (.iconst 0, 1) := by decide +kernel
theorem dX7_feed_52 : decode cX7_feed 52 = .ok (.istore 7, 2) := by decide +kernel
theorem dX7_feed_54 : decode cX7_feed 54 = .ok (.iload 7, 2) := by decide +kernel
theorem dX7_feed_56 : decode cX7_feed 56 = .ok (.bipush 20, 2) := by decide +kernel
theorem dX7_feed_58 : decode cX7_feed 58 = .ok (.if_icmp .ge 43, 3) := by decide +kernel
theorem dX7_feed_61 : decode cX7_feed 61 = .ok (.aload_n 0, 1) := by decide +kernel
theorem dX7_feed_62 : decode cX7_feed 62 = .ok (.getfield 9, 3) := by decide +kernel
theorem dX7_feed_65 : decode cX7_feed 65 = .ok (.aload_n 0, 1) := by decide +kernel
theorem dX7_feed_66 : decode cX7_feed 66 = .ok (.getfield 69, 3) := by decide +kernel
theorem dX7_feed_69 : decode cX7_feed 69 = .ok (.iload 7, 2) := by decide +kernel
theorem dX7_feed_71 : decode cX7_feed 71 = .ok (.iadd, 1) := by decide +kernel
theorem dX7_feed_72 : decode cX7_feed 72 = .ok (.aload 6, 2) := by decide +kernel
theorem dX7_feed_74 : decode cX7_feed 74 = .ok (.iload 7, 2) := by decide +kernel
theorem dX7_feed_76 : decode cX7_feed 76 = .ok (.iconst 4, 1) := by decide +kernel
theorem dX7_feed_77 : decode cX7_feed 77 = .ok (.idiv, 1) := by decide +kernel
theorem dX7_feed_78 : decode cX7_feed 78 = .ok (.iaload, 1) := by decide +kernel
theorem dX7_feed_79 : decode cX7_feed 79 = .ok (.bipush 24, 2) := by decide +kernel
theorem dX7_feed_81 : decode cX7_feed 81 = .ok (.bipush 8, 2) := by decide +kernel
theorem dX7_feed_83 : decode cX7_feed 83 = .ok (.iload 7, 2) := by decide +kernel
theorem dX7_feed_85 : decode cX7_feed 85 = .ok (.iconst 4, 1) := by decide +kernel
theorem dX7_feed_86 : decode cX7_feed 86 = .ok (.irem, 1) := by decide +kernel
theorem dX7_feed_87 : decode cX7_feed 87 = .ok (.imul, 1) := by decide +kernel
theorem dX7_feed_88 : decode cX7_feed 88 = .ok (.isub, 1) := by decide +kernel
theorem dX7_feed_89 : decode cX7_feed 89 = .ok (.iushr, 1) := by decide +kernel
theorem dX7_feed_90 : decode cX7_feed 90 = .ok (.sipush 255, 3) := by decide +kernel
theorem dX7_feed_93 : decode cX7_feed 93 = .ok (.iand, 1) := by decide +kernel
theorem dX7_feed_94 : decode cX7_feed 94 = .ok (.iastore, 1) := by decide +kernel
theorem dX7_feed_95 : decode cX7_feed 95 = .ok (.iinc 7 1, 3) := by decide +kernel
theorem dX7_feed_98 : decode cX7_feed 98 = .ok (.goto (-44), 3) := by decide +kernel
theorem dX7_feed_101 : decode cX7_feed 101 = .ok (.aload_n 0, 1) := by decide +kernel
theorem dX7_feed_102 : decode cX7_feed 102 = .ok (.dup, 1) := by decide +kernel
theorem dX7_feed_103 : decode cX7_feed 103 = .ok (.getfield 69, 3) := by decide +kernel
theorem dX7_feed_106 : decode cX7_feed 106 = .ok (.bipush 20, 2) := by decide +kernel
theorem dX7_feed_108 : decode cX7_feed 108 = .ok (.iadd, 1) := by decide +kernel
theorem dX7_feed_109 : decode cX7_feed 109 = .ok (.putfield 69, 3) := by decide +kernel
theorem dX7_feed_112 : decode cX7_feed 112 = .ok (.aload_n 0, 1) := by decide +kernel
theorem dX7_feed_113 : decode cX7_feed 113 = .ok (.getfield 69, 3) := by decide +kernel
theorem dX7_feed_116 : decode cX7_feed 116 = .ok (.ireturn, 1) := by decide +kernel
set_option maxRecDepth 100000 in
theorem ggX7_trim_X7_isIn : GoodIn wsX7_trim wsX7_isIn := goodIn_r _ [6] rfl (by decide +kernel)
set_option maxRecDepth 100000 in
theorem gX7_trim_X7_isIn : GoodIn wsX7_trim (va_wsS RX7 52 yX7_isIn wsX7_isIn) := goodIn_app (goodIn_of _ (by decide +kernel)) ggX7_trim_X7_isIn
set_option maxRecDepth 100000 in
theorem ggX7_trim_X7_no : GoodIn wsX7_trim wsX7_no := goodIn_r _ [10, 1, 11, 12, 13, 14, 15, 16, 17, 18, 19, 20, 21, 22, 23, 24] rfl (by decide +kernel)
set_option maxRecDepth 100000 in
theorem gX7_trim_X7_no : GoodIn wsX7_trim (wsV RX7 72 RX7 yX7_no wsX7_no) := goodIn_app (goodIn_of _ (by decide +kernel)) ggX7_trim_X7_no
theorem dX7_trim_0 : decode cX7_trim 0 = .ok (.aload_n 0, 1) := by decide +kernel
theorem dX7_trim_1 : decode cX7_trim 1 = .ok (.iconst 0, 1) := by decide +kernel
theorem dX7_trim_2 : decode cX7_trim 2 = .ok (.putfield 48, 3) := by decide +kernel
theorem dX7_trim_5 : decode cX7_trim 5 = .ok (.iload_n 1, 1) := by decide +kernel
theorem dX7_trim_6 : decode cX7_trim 6 = .ok (.iconst 0, 1) := by decide +kernel
theorem dX7_trim_7 : decode cX7_trim 7 = .ok (.aload_n 0, 1) := by decide +kernel
theorem dX7_trim_8 : decode cX7_trim 8 = .ok (.getfield 69, 3) := by decide +kernel
theorem dX7_trim_11 : decode cX7_trim 11 = .ok (.invokestatic 52, 3) := by decide +kernel
theorem dX7_trim_14 : decode cX7_trim 14 = .ok (.ifCond .ne 9, 3) := by decide +kernel
theorem dX7_trim_17 : decode cX7_trim 17 = .ok (.aload_n 0, 1) := by decide +kernel
theorem dX7_trim_18 : decode cX7_trim 18 = .ok (.iconst 1, 1) := by decide +kernel
theorem dX7_trim_19 : decode cX7_trim 19 = .ok (.invokevirtual 72, 3) := by decide +kernel
theorem dX7_trim_22 : decode cX7_trim 22 = .ok (.ireturn, 1) := by decide +kernel
theorem dX7_trim_23 : decode cX7_trim 23 = .ok (.aload_n 0, 1) := by decide +kernel
theorem dX7_trim_24 : decode cX7_trim 24 = .ok (.iload_n 1, 1) := by decide +kernel
theorem dX7_trim_25 : decode cX7_trim 25 = .ok (.putfield 69, 3) := by decide +kernel
theorem dX7_trim_28 : decode cX7_trim 28 = .ok (.iload_n 1, 1) := by decide +kernel
theorem dX7_trim_29 : decode cX7_trim 29 = .ok (.ireturn, 1) := by decide +kernel
theorem dX7_fault_0 : decode cX7_fault 0 = .ok (.iconst 0, 1) := by decide +kernel
theorem dX7_fault_1 : decode cX7_fault 1 = .ok (.istore_n 1, 1) := by decide +kernel
theorem dX7_fault_2 : decode cX7_fault 2 = .ok (.iload_n 1, 1) := by decide +kernel
theorem dX7_fault_3 : decode cX7_fault 3 = .ok (.aload_n 0, 1) := by decide +kernel
theorem dX7_fault_4 : decode cX7_fault 4 = .ok (.getfield 69, 3) := by decide +kernel
theorem dX7_fault_7 : decode cX7_fault 7 = .ok (.if_icmp .ge 63, 3) := by decide +kernel
theorem dX7_fault_10 : decode cX7_fault 10 = .ok (.iload_n 1, 1) := by decide +kernel
theorem dX7_fault_11 : decode cX7_fault 11 = .ok (.sipush 156, 3) := by decide +kernel
theorem dX7_fault_14 : decode cX7_fault 14 = .ok (.if_icmp .ge 42, 3) := by decide +kernel
theorem dX7_fault_17 : decode cX7_fault 17 = .ok (.iload_n 1, 1) := by decide +kernel
theorem dX7_fault_18 : decode cX7_fault 18 = .ok (.bipush 13, 2) := by decide +kernel
theorem dX7_fault_20 : decode cX7_fault 20 = .ok (.irem, 1) := by decide +kernel
theorem dX7_fault_21 : decode cX7_fault 21 = .ok (.bipush 12, 2) := by decide +kernel
theorem dX7_fault_23 : decode cX7_fault 23 = .ok (.if_icmp .ne 17, 3) := by decide +kernel
theorem dX7_fault_26 : decode cX7_fault 26 = .ok (.aload_n 0, 1) := by decide +kernel
theorem dX7_fault_27 : decode cX7_fault 27 = .ok (.getfield 9, 3) := by decide +kernel
theorem dX7_fault_30 : decode cX7_fault 30 = .ok (.iload_n 1, 1) := by decide +kernel
theorem dX7_fault_31 : decode cX7_fault 31 = .ok (.iaload, 1) := by decide +kernel
theorem dX7_fault_32 : decode cX7_fault 32 = .ok (.bipush 10, 2) := by decide +kernel
theorem dX7_fault_34 : decode cX7_fault 34 = .ok (.if_icmp .ne 22, 3) := by decide +kernel
theorem dX7_fault_37 : decode cX7_fault 37 = .ok (.goto 15, 3) := by decide +kernel
theorem dX7_fault_40 : decode cX7_fault 40 = .ok (.aload_n 0, 1) := by decide +kernel
theorem dX7_fault_41 : decode cX7_fault 41 = .ok (.getfield 9, 3) := by decide +kernel
theorem dX7_fault_44 : decode cX7_fault 44 = .ok (.iload_n 1, 1) := by decide +kernel
theorem dX7_fault_45 : decode cX7_fault 45 = .ok (.iaload, 1) := by decide +kernel
theorem dX7_fault_46 : decode cX7_fault 46 = .ok (.invokestatic 75, 3) := by decide +kernel
theorem dX7_fault_49 : decode cX7_fault 49 = .ok (.ifCond .eq 7, 3) := by decide +kernel
theorem dX7_fault_52 : decode cX7_fault 52 = .ok (.iconst 1, 1) := by decide +kernel
theorem dX7_fault_53 : decode cX7_fault 53 = .ok (.goto 4, 3) := by decide +kernel
theorem dX7_fault_56 : decode cX7_fault 56 = .ok (.iconst 0, 1) := by decide +kernel
theorem dX7_fault_57 : decode cX7_fault 57 = .ok (.istore_n 2, 1) := by decide +kernel
theorem dX7_fault_58 : decode cX7_fault 58 = .ok (.iload_n 2, 1) := by decide +kernel
theorem dX7_fault_59 : decode cX7_fault 59 = .ok (.ifCond .ne 5, 3) := by decide +kernel
theorem dX7_fault_62 : decode cX7_fault 62 = .ok (.iload_n 1, 1) := by decide +kernel
theorem dX7_fault_63 : decode cX7_fault 63 = .ok (.ireturn, 1) := by decide +kernel
theorem dX7_fault_64 : decode cX7_fault 64 = .ok (.iinc 1 1, 3) := by decide +kernel
theorem dX7_fault_67 : decode cX7_fault 67 = .ok (.goto (-65), 3) := by decide +kernel
theorem dX7_fault_70 : decode cX7_fault 70 = .ok (.aload_n 0, 1) := by decide +kernel
theorem dX7_fault_71 : decode cX7_fault 71 = .ok (.getfield 69, 3) := by decide +kernel
theorem dX7_fault_74 : decode cX7_fault 74 = .ok (.sipush 156, 3) := by decide +kernel
theorem dX7_fault_77 : decode cX7_fault 77 = .ok (.if_icmp .ge 10, 3) := by decide +kernel
theorem dX7_fault_80 : decode cX7_fault 80 = .ok (.aload_n 0, 1) := by decide +kernel
theorem dX7_fault_81 : decode cX7_fault 81 = .ok (.getfield 69, 3) := by decide +kernel
theorem dX7_fault_84 : decode cX7_fault 84 = .ok (.goto 4, 3) := by decide +kernel
theorem dX7_fault_87 : decode cX7_fault 87 = .ok (.iconst (-1), 1) := by decide +kernel
theorem dX7_fault_88 : decode cX7_fault 88 = .ok (.ireturn, 1) := by decide +kernel
set_option maxRecDepth 100000 in
theorem ggX7_map_X7_fault : GoodIn wsX7_map wsX7_fault := goodIn_r _ [9, 4, 2, 10, 11, 8, 12, 18, 19, 20, 21, 22, 23, 24, 25, 26, 27, 28, 29, 30, 31] rfl (by decide +kernel)
set_option maxRecDepth 100000 in
theorem gX7_map_X7_fault : GoodIn wsX7_map (wsV RX7 79 RX7 yX7_fault wsX7_fault) := goodIn_app (goodIn_of _ (by decide +kernel)) ggX7_map_X7_fault
theorem dX7_map_0 : decode cX7_map 0 = .ok (.aload_n 0, 1) := by decide +kernel
theorem dX7_map_1 : decode cX7_map 1 = .ok (.iconst 0, 1) := by decide +kernel
theorem dX7_map_2 : decode cX7_map 2 = .ok (.putfield 48, 3) := by decide +kernel
theorem dX7_map_5 : decode cX7_map 5 = .ok (.aload_n 0, 1) := by decide +kernel
theorem dX7_map_6 : decode cX7_map 6 = .ok (.invokevirtual 79, 3) := by decide +kernel
theorem dX7_map_9 : decode cX7_map 9 = .ok (.istore_n 1, 1) := by decide +kernel
theorem dX7_map_10 : decode cX7_map 10 = .ok (.iconst 0, 1) := by decide +kernel
theorem dX7_map_11 : decode cX7_map 11 = .ok (.istore_n 2, 1) := by decide +kernel
theorem dX7_map_12 : decode cX7_map 12 = .ok (.iload_n 2, 1) := by decide +kernel
theorem dX7_map_13 : decode cX7_map 13 = .ok (.sipush 156, 3) := by decide +kernel
theorem dX7_map_16 : decode cX7_map 16 = .ok (.if_icmp .ge 45, 3) := by decide +kernel
theorem dX7_map_19 : decode cX7_map 19 = .ok (.iload_n 1, 1) := by decide +kernel
theorem dX7_map_20 : decode cX7_map 20 = .ok (.iconst (-1), 1) := by decide +kernel
theorem dX7_map_21 : decode cX7_map 21 = .ok (.if_icmp .ne 40, 3) := by decide +kernel
theorem dX7_map_24 : decode cX7_map 24 = .ok (.iload_n 2, 1) := by decide +kernel
theorem dX7_map_25 : decode cX7_map 25 = .ok (.bipush 13, 2) := by decide +kernel
theorem dX7_map_27 : decode cX7_map 27 = .ok (.irem, 1) := by decide +kernel
theorem dX7_map_28 : decode cX7_map 28 = .ok (.bipush 12, 2) := by decide +kernel
theorem dX7_map_30 : decode cX7_map 30 = .ok (.if_icmp .ge 25, 3) := by decide +kernel
theorem dX7_map_33 : decode cX7_map 33 = .ok (.aload_n 0, 1) := by decide +kernel
theorem dX7_map_34 : decode cX7_map 34 = .ok (.bipush 12, 2) := by decide +kernel
theorem dX7_map_36 : decode cX7_map 36 = .ok (.iload_n 2, 1) := by decide +kernel
theorem dX7_map_37 : decode cX7_map 37 = .ok (.bipush 13, 2) := by decide +kernel
theorem dX7_map_39 : decode cX7_map 39 = .ok (.idiv, 1) := by decide +kernel
theorem dX7_map_40 : decode cX7_map 40 = .ok (.imul, 1) := by decide +kernel
theorem dX7_map_41 : decode cX7_map 41 = .ok (.iload_n 2, 1) := by decide +kernel
theorem dX7_map_42 : decode cX7_map 42 = .ok (.bipush 13, 2) := by decide +kernel
theorem dX7_map_44 : decode cX7_map 44 = .ok (.irem, 1) := by decide +kernel
theorem dX7_map_45 : decode cX7_map 45 = .ok (.iadd, 1) := by decide +kernel
theorem dX7_map_46 : decode cX7_map 46 = .ok (.aload_n 0, 1) := by decide +kernel
theorem dX7_map_47 : decode cX7_map 47 = .ok (.getfield 9, 3) := by decide +kernel
theorem dX7_map_50 : decode cX7_map 50 = .ok (.iload_n 2, 1) := by decide +kernel
theorem dX7_map_51 : decode cX7_map 51 = .ok (.iaload, 1) := by decide +kernel
theorem dX7_map_52 : decode cX7_map 52 = .ok (.invokevirtual 83, 3) := by decide +kernel
theorem dX7_map_55 : decode cX7_map 55 = .ok (.iinc 2 1, 3) := by decide +kernel
theorem dX7_map_58 : decode cX7_map 58 = .ok (.goto (-46), 3) := by decide +kernel
theorem dX7_map_61 : decode cX7_map 61 = .ok (.iload_n 1, 1) := by decide +kernel
theorem dX7_map_62 : decode cX7_map 62 = .ok (.iconst (-1), 1) := by decide +kernel
theorem dX7_map_63 : decode cX7_map 63 = .ok (.if_icmp .ne 8, 3) := by decide +kernel
theorem dX7_map_66 : decode cX7_map 66 = .ok (.aload_n 0, 1) := by decide +kernel
theorem dX7_map_67 : decode cX7_map 67 = .ok (.iconst 0, 1) := by decide +kernel
theorem dX7_map_68 : decode cX7_map 68 = .ok (.putfield 56, 3) := by decide +kernel
theorem dX7_map_71 : decode cX7_map 71 = .ok (.aload_n 0, 1) := by decide +kernel
theorem dX7_map_72 : decode cX7_map 72 = .ok (.iconst 0, 1) := by decide +kernel
theorem dX7_map_73 : decode cX7_map 73 = .ok (.putfield 69, 3) := by decide +kernel
theorem dX7_map_76 : decode cX7_map 76 = .ok (.iload_n 1, 1) := by decide +kernel
theorem dX7_map_77 : decode cX7_map 77 = .ok (.ireturn, 1) := by decide +kernel
set_option maxRecDepth 100000 in
theorem ggX7_openAt_X7_isCell : GoodIn wsX7_openAt wsX7_isCell := goodIn_r _ [6, 7, 8, 5, 9] rfl (by decide +kernel)
set_option maxRecDepth 100000 in
theorem gX7_openAt_X7_isCell : GoodIn wsX7_openAt (va_wsS RX7 59 yX7_isCell wsX7_isCell) := goodIn_app (goodIn_of _ (by decide +kernel)) ggX7_openAt_X7_isCell
set_option maxRecDepth 100000 in
theorem ggX7_openAt_X7_no : GoodIn wsX7_openAt wsX7_no := goodIn_r _ [13, 1, 24, 25, 26, 27, 28, 29, 30, 31, 32, 33, 34, 35, 36, 37] rfl (by decide +kernel)
set_option maxRecDepth 100000 in
theorem gX7_openAt_X7_no : GoodIn wsX7_openAt (wsV RX7 72 RX7 yX7_no wsX7_no) := goodIn_app (goodIn_of _ (by decide +kernel)) ggX7_openAt_X7_no
set_option maxRecDepth 100000 in
theorem ggX7_openAt_X6_isTunnel : GoodIn wsX7_openAt wsX6_isTunnel := goodIn_r _ [18, 19, 38, 39, 40, 41, 42] rfl (by decide +kernel)
set_option maxRecDepth 100000 in
theorem gX7_openAt_X6_isTunnel : GoodIn wsX7_openAt (wsV RX7 87 RX6 yX6_isTunnel wsX6_isTunnel) := goodIn_app (goodIn_of _ (by decide +kernel)) ggX7_openAt_X6_isTunnel
set_option maxRecDepth 100000 in
theorem ggX7_openAt_X6_open : GoodIn wsX7_openAt wsX6_open := goodIn_r _ [23, 19, 38, 39, 40, 41, 42] rfl (by decide +kernel)
set_option maxRecDepth 100000 in
theorem gX7_openAt_X6_open : GoodIn wsX7_openAt (wsV RX7 90 RX6 yX6_open wsX6_open) := goodIn_app (goodIn_of _ (by decide +kernel)) ggX7_openAt_X6_open
theorem dX7_openAt_0 : decode cX7_openAt 0 = .ok (.aload_n 0, 1) := by decide +kernel
theorem dX7_openAt_1 : decode cX7_openAt 1 = .ok (.iconst 0, 1) := by decide +kernel
theorem dX7_openAt_2 : decode cX7_openAt 2 = .ok (.putfield 48, 3) := by decide +kernel
theorem dX7_openAt_5 : decode cX7_openAt 5 = .ok (.iload_n 1, 1) := by decide +kernel
theorem dX7_openAt_6 : decode cX7_openAt 6 = .ok (.iload_n 2, 1) := by decide +kernel
theorem dX7_openAt_7 : decode cX7_openAt 7 = .ok (.invokestatic 59, 3) := by decide +kernel
theorem dX7_openAt_10 : decode cX7_openAt 10 = .ok (.ifCond .ne 9, 3) := by decide +kernel
theorem dX7_openAt_13 : decode cX7_openAt 13 = .ok (.aload_n 0, 1) := by decide +kernel
theorem dX7_openAt_14 : decode cX7_openAt 14 = .ok (.iconst 1, 1) := by decide +kernel
theorem dX7_openAt_15 : decode cX7_openAt 15 = .ok (.invokevirtual 72, 3) := by decide +kernel
theorem dX7_openAt_18 : decode cX7_openAt 18 = .ok (.ireturn, 1) := by decide +kernel
theorem dX7_openAt_19 : decode cX7_openAt 19 = .ok (.bipush 12, 2) := by decide +kernel
theorem dX7_openAt_21 : decode cX7_openAt 21 = .ok (.iload_n 2, 1) := by decide +kernel
theorem dX7_openAt_22 : decode cX7_openAt 22 = .ok (.imul, 1) := by decide +kernel
theorem dX7_openAt_23 : decode cX7_openAt 23 = .ok (.iload_n 1, 1) := by decide +kernel
theorem dX7_openAt_24 : decode cX7_openAt 24 = .ok (.iadd, 1) := by decide +kernel
theorem dX7_openAt_25 : decode cX7_openAt 25 = .ok (.istore_n 3, 1) := by decide +kernel
theorem dX7_openAt_26 : decode cX7_openAt 26 = .ok (.aload_n 0, 1) := by decide +kernel
theorem dX7_openAt_27 : decode cX7_openAt 27 = .ok (.getfield 38, 3) := by decide +kernel
theorem dX7_openAt_30 : decode cX7_openAt 30 = .ok (.getfield 45, 3) := by decide +kernel
theorem dX7_openAt_33 : decode cX7_openAt 33 = .ok (.bipush 8, 2) := by decide +kernel
theorem dX7_openAt_35 : decode cX7_openAt 35 = .ok (.iload_n 3, 1) := by decide +kernel
theorem dX7_openAt_36 : decode cX7_openAt 36 = .ok (.imul, 1) := by decide +kernel
theorem dX7_openAt_37 : decode cX7_openAt 37 = .ok (.iaload, 1) := by decide +kernel
theorem dX7_openAt_38 : decode cX7_openAt 38 = .ok (.ifCond .eq 14, 3) := by decide +kernel
theorem dX7_openAt_41 : decode cX7_openAt 41 = .ok (.aload_n 0, 1) := by decide +kernel
theorem dX7_openAt_42 : decode cX7_openAt 42 = .ok (.getfield 38, 3) := by decide +kernel
theorem dX7_openAt_45 : decode cX7_openAt 45 = .ok (.iload_n 3, 1) := by decide +kernel
theorem dX7_openAt_46 : decode cX7_openAt 46 = .ok (.invokevirtual 87, 3) := by decide +kernel
theorem dX7_openAt_49 : decode cX7_openAt 49 = .ok (.ifCond .eq 9, 3) := by decide +kernel
theorem dX7_openAt_52 : decode cX7_openAt 52 = .ok (.aload_n 0, 1) := by decide +kernel
theorem dX7_openAt_53 : decode cX7_openAt 53 = .ok (.iconst 2, 1) := by decide +kernel
theorem dX7_openAt_54 : decode cX7_openAt 54 = .ok (.invokevirtual 72, 3) := by decide +kernel
theorem dX7_openAt_57 : decode cX7_openAt 57 = .ok (.ireturn, 1) := by decide +kernel
theorem dX7_openAt_58 : decode cX7_openAt 58 = .ok (.aload_n 0, 1) := by decide +kernel
theorem dX7_openAt_59 : decode cX7_openAt 59 = .ok (.getfield 38, 3) := by decide +kernel
theorem dX7_openAt_62 : decode cX7_openAt 62 = .ok (.iload_n 3, 1) := by decide +kernel
theorem dX7_openAt_63 : decode cX7_openAt 63 = .ok (.invokevirtual 90, 3) := by decide +kernel
theorem dX7_openAt_66 : decode cX7_openAt 66 = .ok (.aload_n 0, 1) := by decide +kernel
theorem dX7_openAt_67 : decode cX7_openAt 67 = .ok (.getfield 38, 3) := by decide +kernel
theorem dX7_openAt_70 : decode cX7_openAt 70 = .ok (.getfield 45, 3) := by decide +kernel
theorem dX7_openAt_73 : decode cX7_openAt 73 = .ok (.bipush 8, 2) := by decide +kernel
theorem dX7_openAt_75 : decode cX7_openAt 75 = .ok (.iload_n 3, 1) := by decide +kernel
theorem dX7_openAt_76 : decode cX7_openAt 76 = .ok (.imul, 1) := by decide +kernel
theorem dX7_openAt_77 : decode cX7_openAt 77 = .ok (.iaload, 1) := by decide +kernel
theorem dX7_openAt_78 : decode cX7_openAt 78 = .ok (.ireturn, 1) := by decide +kernel
theorem dX7_cellTold_0 : decode cX7_cellTold 0 = .ok (.aload_n 0, 1) := by decide +kernel
theorem dX7_cellTold_1 : decode cX7_cellTold 1 = .ok (.getfield 38, 3) := by decide +kernel
theorem dX7_cellTold_4 : decode cX7_cellTold 4 = .ok (.getfield 45, 3) := by decide +kernel
theorem dX7_cellTold_7 : decode cX7_cellTold 7 = .ok (.bipush 8, 2) := by decide +kernel
theorem dX7_cellTold_9 : decode cX7_cellTold 9 = .ok (.iload_n 1, 1) := by decide +kernel
theorem dX7_cellTold_10 : decode cX7_cellTold 10 = .ok (.imul, 1) := by decide +kernel
theorem dX7_cellTold_11 : decode cX7_cellTold 11 = .ok (.iload_n 2, 1) := by decide +kernel
theorem dX7_cellTold_12 : decode cX7_cellTold 12 = .ok (.iadd, 1) := by decide +kernel
theorem dX7_cellTold_13 : decode cX7_cellTold 13 = .ok (.iaload, 1) := by decide +kernel
theorem dX7_cellTold_14 : decode cX7_cellTold 14 = .ok (.ireturn, 1) := by decide +kernel
set_option maxRecDepth 100000 in
theorem ggX7_cell_X7_isCell : GoodIn wsX7_cell wsX7_isCell := goodIn_r _ [5, 6, 7, 4, 8] rfl (by decide +kernel)
set_option maxRecDepth 100000 in
theorem gX7_cell_X7_isCell : GoodIn wsX7_cell (va_wsS RX7 59 yX7_isCell wsX7_isCell) := goodIn_app (goodIn_of _ (by decide +kernel)) ggX7_cell_X7_isCell
set_option maxRecDepth 100000 in
theorem ggX7_cell_X7_isIn : GoodIn wsX7_cell wsX7_isIn := goodIn_r _ [8] rfl (by decide +kernel)
set_option maxRecDepth 100000 in
theorem gX7_cell_X7_isIn : GoodIn wsX7_cell (va_wsS RX7 52 yX7_isIn wsX7_isIn) := goodIn_app (goodIn_of _ (by decide +kernel)) ggX7_cell_X7_isIn
set_option maxRecDepth 100000 in
theorem ggX7_cell_X7_cellTold : GoodIn wsX7_cell wsX7_cellTold := goodIn_r _ [12, 13, 18, 19, 20, 21, 22, 23, 24, 25, 26, 27, 28, 29, 30, 31, 32, 33, 34, 35, 36] rfl (by decide +kernel)
set_option maxRecDepth 100000 in
theorem gX7_cell_X7_cellTold : GoodIn wsX7_cell (wsV RX7 94 RX7 yX7_cellTold wsX7_cellTold) := goodIn_app (goodIn_of _ (by decide +kernel)) ggX7_cell_X7_cellTold
set_option maxRecDepth 100000 in
theorem ggX7_cell_X7_no : GoodIn wsX7_cell wsX7_no := goodIn_r _ [17, 1, 18, 19, 20, 21, 22, 23, 24, 25, 26, 27, 28, 29, 30, 31] rfl (by decide +kernel)
set_option maxRecDepth 100000 in
theorem gX7_cell_X7_no : GoodIn wsX7_cell (wsV RX7 72 RX7 yX7_no wsX7_no) := goodIn_app (goodIn_of _ (by decide +kernel)) ggX7_cell_X7_no
theorem dX7_cell_0 : decode cX7_cell 0 = .ok (.aload_n 0, 1) := by decide +kernel
theorem dX7_cell_1 : decode cX7_cell 1 = .ok (.iconst 0, 1) := by decide +kernel
theorem dX7_cell_2 : decode cX7_cell 2 = .ok (.putfield 48, 3) := by decide +kernel
theorem dX7_cell_5 : decode cX7_cell 5 = .ok (.iload_n 1, 1) := by decide +kernel
theorem dX7_cell_6 : decode cX7_cell 6 = .ok (.iload_n 2, 1) := by decide +kernel
theorem dX7_cell_7 : decode cX7_cell 7 = .ok (.invokestatic 59, 3) := by decide +kernel
theorem dX7_cell_10 : decode cX7_cell 10 = .ok (.ifCond .eq 27, 3) := by decide +kernel
theorem dX7_cell_13 : decode cX7_cell 13 = .ok (.iload_n 3, 1) := by decide +kernel
theorem dX7_cell_14 : decode cX7_cell 14 = .ok (.iconst 0, 1) := by decide +kernel
theorem dX7_cell_15 : decode cX7_cell 15 = .ok (.bipush 7, 2) := by decide +kernel
theorem dX7_cell_17 : decode cX7_cell 17 = .ok (.invokestatic 52, 3) := by decide +kernel
theorem dX7_cell_20 : decode cX7_cell 20 = .ok (.ifCond .eq 17, 3) := by decide +kernel
theorem dX7_cell_23 : decode cX7_cell 23 = .ok (.aload_n 0, 1) := by decide +kernel
theorem dX7_cell_24 : decode cX7_cell 24 = .ok (.bipush 12, 2) := by decide +kernel
theorem dX7_cell_26 : decode cX7_cell 26 = .ok (.iload_n 2, 1) := by decide +kernel
theorem dX7_cell_27 : decode cX7_cell 27 = .ok (.imul, 1) := by decide +kernel
theorem dX7_cell_28 : decode cX7_cell 28 = .ok (.iload_n 1, 1) := by decide +kernel
theorem dX7_cell_29 : decode cX7_cell 29 = .ok (.iadd, 1) := by decide +kernel
theorem dX7_cell_30 : decode cX7_cell 30 = .ok (.iload_n 3, 1) := by decide +kernel
theorem dX7_cell_31 : decode cX7_cell 31 = .ok (.invokevirtual 94, 3) := by decide +kernel
theorem dX7_cell_34 : decode cX7_cell 34 = .ok (.goto 8, 3) := by decide +kernel
theorem dX7_cell_37 : decode cX7_cell 37 = .ok (.aload_n 0, 1) := by decide +kernel
theorem dX7_cell_38 : decode cX7_cell 38 = .ok (.iconst 1, 1) := by decide +kernel
theorem dX7_cell_39 : decode cX7_cell 39 = .ok (.invokevirtual 72, 3) := by decide +kernel
theorem dX7_cell_42 : decode cX7_cell 42 = .ok (.ireturn, 1) := by decide +kernel
set_option maxRecDepth 100000 in
theorem ggX7_come_X7_isCell : GoodIn wsX7_come wsX7_isCell := goodIn_r _ [12, 13, 14, 11, 15] rfl (by decide +kernel)
set_option maxRecDepth 100000 in
theorem gX7_come_X7_isCell : GoodIn wsX7_come (va_wsS RX7 59 yX7_isCell wsX7_isCell) := goodIn_app (goodIn_of _ (by decide +kernel)) ggX7_come_X7_isCell
set_option maxRecDepth 100000 in
theorem ggX7_come_X7_no : GoodIn wsX7_come wsX7_no := goodIn_r _ [19, 1, 26, 27, 28, 29, 30, 31, 32, 33, 34, 35, 36, 37, 38, 39] rfl (by decide +kernel)
set_option maxRecDepth 100000 in
theorem gX7_come_X7_no : GoodIn wsX7_come (wsV RX7 72 RX7 yX7_no wsX7_no) := goodIn_app (goodIn_of _ (by decide +kernel)) ggX7_come_X7_no
set_option maxRecDepth 100000 in
theorem ggX7_come_X7_isIn : GoodIn wsX7_come wsX7_isIn := goodIn_r _ [15] rfl (by decide +kernel)
set_option maxRecDepth 100000 in
theorem gX7_come_X7_isIn : GoodIn wsX7_come (va_wsS RX7 52 yX7_isIn wsX7_isIn) := goodIn_app (goodIn_of _ (by decide +kernel)) ggX7_come_X7_isIn
set_option maxRecDepth 100000 in
theorem ggX7_come_X6_isTunnel : GoodIn wsX7_come wsX6_isTunnel := goodIn_r _ [24, 25, 40, 41, 42, 43, 44] rfl (by decide +kernel)
set_option maxRecDepth 100000 in
theorem gX7_come_X6_isTunnel : GoodIn wsX7_come (wsV RX7 87 RX6 yX6_isTunnel wsX6_isTunnel) := goodIn_app (goodIn_of _ (by decide +kernel)) ggX7_come_X6_isTunnel
theorem dX7_come_0 : decode cX7_come 0 = .ok (.aload_n 0, 1) := by decide +kernel
theorem dX7_come_1 : decode cX7_come 1 = .ok (.iconst 0, 1) := by decide +kernel
theorem dX7_come_2 : decode cX7_come 2 = .ok (.putfield 48, 3) := by decide +kernel
theorem dX7_come_5 : decode cX7_come 5 = .ok (.iload_n 2, 1) := by decide +kernel
theorem dX7_come_6 : decode cX7_come 6 = .ok (.iload_n 3, 1) := by decide +kernel
theorem dX7_come_7 : decode cX7_come 7 = .ok (.invokestatic 59, 3) := by decide +kernel
theorem dX7_come_10 : decode cX7_come 10 = .ok (.ifCond .ne 9, 3) := by decide +kernel
theorem dX7_come_13 : decode cX7_come 13 = .ok (.aload_n 0, 1) := by decide +kernel
theorem dX7_come_14 : decode cX7_come 14 = .ok (.iconst 1, 1) := by decide +kernel
theorem dX7_come_15 : decode cX7_come 15 = .ok (.invokevirtual 72, 3) := by decide +kernel
theorem dX7_come_18 : decode cX7_come 18 = .ok (.ireturn, 1) := by decide +kernel
theorem dX7_come_19 : decode cX7_come 19 = .ok (.iload_n 1, 1) := by decide +kernel
theorem dX7_come_20 : decode cX7_come 20 = .ok (.iconst 0, 1) := by decide +kernel
theorem dX7_come_21 : decode cX7_come 21 = .ok (.iconst 1, 1) := by decide +kernel
theorem dX7_come_22 : decode cX7_come 22 = .ok (.invokestatic 52, 3) := by decide +kernel
theorem dX7_come_25 : decode cX7_come 25 = .ok (.ifCond .eq 24, 3) := by decide +kernel
theorem dX7_come_28 : decode cX7_come 28 = .ok (.iload 4, 2) := by decide +kernel
theorem dX7_come_30 : decode cX7_come 30 = .ok (.iconst 1, 1) := by decide +kernel
theorem dX7_come_31 : decode cX7_come 31 = .ok (.bipush 9, 2) := by decide +kernel
theorem dX7_come_33 : decode cX7_come 33 = .ok (.invokestatic 52, 3) := by decide +kernel
theorem dX7_come_36 : decode cX7_come 36 = .ok (.ifCond .eq 13, 3) := by decide +kernel
theorem dX7_come_39 : decode cX7_come 39 = .ok (.iload 5, 2) := by decide +kernel
theorem dX7_come_41 : decode cX7_come 41 = .ok (.iconst 1, 1) := by decide +kernel
theorem dX7_come_42 : decode cX7_come 42 = .ok (.iconst 5, 1) := by decide +kernel
theorem dX7_come_43 : decode cX7_come 43 = .ok (.invokestatic 52, 3) := by decide +kernel
theorem dX7_come_46 : decode cX7_come 46 = .ok (.ifCond .ne 9, 3) := by decide +kernel
theorem dX7_come_49 : decode cX7_come 49 = .ok (.aload_n 0, 1) := by decide +kernel
theorem dX7_come_50 : decode cX7_come 50 = .ok (.iconst 2, 1) := by decide +kernel
theorem dX7_come_51 : decode cX7_come 51 = .ok (.invokevirtual 72, 3) := by decide +kernel
theorem dX7_come_54 : decode cX7_come 54 = .ok (.ireturn, 1) := by decide +kernel
theorem dX7_come_55 : decode cX7_come 55 = .ok (.aload_n 0, 1) := by decide +kernel
theorem dX7_come_56 : decode cX7_come 56 = .ok (.getfield 56, 3) := by decide +kernel
theorem dX7_come_59 : decode cX7_come 59 = .ok (.bipush 8, 2) := by decide +kernel
theorem dX7_come_61 : decode cX7_come 61 = .ok (.if_icmp .eq 19, 3) := by decide +kernel
theorem dX7_come_64 : decode cX7_come 64 = .ok (.aload_n 0, 1) := by decide +kernel
theorem dX7_come_65 : decode cX7_come 65 = .ok (.getfield 38, 3) := by decide +kernel
theorem dX7_come_68 : decode cX7_come 68 = .ok (.bipush 12, 2) := by decide +kernel
theorem dX7_come_70 : decode cX7_come 70 = .ok (.iload_n 3, 1) := by decide +kernel
theorem dX7_come_71 : decode cX7_come 71 = .ok (.imul, 1) := by decide +kernel
theorem dX7_come_72 : decode cX7_come 72 = .ok (.iload_n 2, 1) := by decide +kernel
theorem dX7_come_73 : decode cX7_come 73 = .ok (.iadd, 1) := by decide +kernel
theorem dX7_come_74 : decode cX7_come 74 = .ok (.invokevirtual 87, 3) := by decide +kernel
theorem dX7_come_77 : decode cX7_come 77 = .ok (.ifCond .ne 9, 3) := by decide +kernel
theorem dX7_come_80 : decode cX7_come 80 = .ok (.aload_n 0, 1) := by decide +kernel
theorem dX7_come_81 : decode cX7_come 81 = .ok (.iconst 3, 1) := by decide +kernel
theorem dX7_come_82 : decode cX7_come 82 = .ok (.invokevirtual 72, 3) := by decide +kernel
theorem dX7_come_85 : decode cX7_come 85 = .ok (.ireturn, 1) := by decide +kernel
theorem dX7_come_86 : decode cX7_come 86 = .ok (.bipush 10, 2) := by decide +kernel
theorem dX7_come_88 : decode cX7_come 88 = .ok (.newarray .int, 2) := by decide +kernel
theorem dX7_come_90 : decode cX7_come 90 = .ok (.dup, 1) := by decide +kernel
theorem dX7_come_91 : decode cX7_come 91 = .ok (.iconst 0, 1) := by decide +kernel
theorem dX7_come_92 : decode cX7_come 92 = .ok (.iload_n 1, 1) := by decide +kernel
theorem dX7_come_93 : decode cX7_come 93 = .ok (.iastore, 1) := by decide +kernel
theorem dX7_come_94 : decode cX7_come 94 = .ok (.dup, 1) := by decide +kernel
theorem dX7_come_95 : decode cX7_come 95 = .ok (.iconst 1, 1) := by decide +kernel
theorem dX7_come_96 : decode cX7_come 96 = .ok (.bipush 12, 2) := by decide +kernel
theorem dX7_come_98 : decode cX7_come 98 = .ok (.iload_n 3, 1) := by decide +kernel
theorem dX7_come_99 : decode cX7_come 99 = .ok (.imul, 1) := by decide +kernel
theorem dX7_come_100 : decode cX7_come 100 = .ok (.iload_n 2, 1) := by decide +kernel
theorem dX7_come_101 : decode cX7_come 101 = .ok (.iadd, 1) := by decide +kernel
theorem dX7_come_102 : decode cX7_come 102 = .ok (.iastore, 1) := by decide +kernel
theorem dX7_come_103 : decode cX7_come 103 = .ok (.dup, 1) := by decide +kernel
theorem dX7_come_104 : decode cX7_come 104 = .ok (.iconst 2, 1) := by decide +kernel
theorem dX7_come_105 : decode cX7_come 105 = .ok (.iload 4, 2) := by decide +kernel
theorem dX7_come_107 : decode cX7_come 107 = .ok (.iastore, 1) := by decide +kernel
theorem dX7_come_108 : decode cX7_come 108 = .ok (.dup, 1) := by decide +kernel
theorem dX7_come_109 : decode cX7_come 109 = .ok (.iconst 3, 1) := by decide +kernel
theorem dX7_come_110 : decode cX7_come 110 = .ok (.iload 5, 2) := by decide +kernel
theorem dX7_come_112 : decode cX7_come 112 = .ok (.iastore, 1) := by decide +kernel
theorem dX7_come_113 : decode cX7_come 113 = .ok (.dup, 1) := by decide +kernel
theorem dX7_come_114 : decode cX7_come 114 = .ok (.iconst 4, 1) := by decide +kernel
theorem dX7_come_115 : decode cX7_come 115 = .ok (.iconst 0, 1) := by decide +kernel
theorem dX7_come_116 : decode cX7_come 116 = .ok (.iastore, 1) := by decide +kernel
theorem dX7_come_117 : decode cX7_come 117 = .ok (.dup, 1) := by decide +kernel
theorem dX7_come_118 : decode cX7_come 118 = .ok (.iconst 5, 1) := by decide +kernel
theorem dX7_come_119 : decode cX7_come 119 = .ok (.iconst 0, 1) := by decide +kernel
theorem dX7_come_120 : decode cX7_come 120 = .ok (.iastore, 1) := by decide +kernel
theorem dX7_come_121 : decode cX7_come 121 = .ok (.dup, 1) := by decide +kernel
theorem dX7_come_122 : decode cX7_come 122 = .ok (.bipush 6, 2) := by decide +kernel
theorem dX7_come_124 : decode cX7_come 124 = .ok (.iconst 0, 1) := by decide +kernel
theorem dX7_come_125 : decode cX7_come 125 = .ok (.iastore, 1) := by decide +kernel
theorem dX7_come_126 : decode cX7_come 126 = .ok (.dup, 1) := by decide +kernel
theorem dX7_come_127 : decode cX7_come 127 = .ok (.bipush 7, 2) := by decide +kernel
theorem dX7_come_129 : decode cX7_come 129 = .ok (.iconst (-1), 1) := by decide +kernel
theorem dX7_come_130 : decode cX7_come 130 = .ok (.iastore, 1) := by decide +kernel
theorem dX7_come_131 : decode cX7_come 131 = .ok (.dup, 1) := by decide +kernel
theorem dX7_come_132 : decode cX7_come 132 = .ok (.bipush 8, 2) := by decide +kernel
theorem dX7_come_134 : decode cX7_come 134 = .ok (.iconst (-1), 1) := by decide +kernel
theorem dX7_come_135 : decode cX7_come 135 = .ok (.iastore, 1) := by decide +kernel
theorem dX7_come_136 : decode cX7_come 136 = .ok (.dup, 1) := by decide +kernel
theorem dX7_come_137 : decode cX7_come 137 = .ok (.bipush 9, 2) := by decide +kernel
theorem dX7_come_139 : decode cX7_come 139 = .ok (.iconst (-1), 1) := by decide +kernel
theorem dX7_come_140 : decode cX7_come 140 = .ok (.iastore, 1) := by decide +kernel
theorem dX7_come_141 : decode cX7_come 141 = .ok (.astore 6, 2) := by decide +kernel
theorem dX7_come_143 : decode cX7_come 143 = .ok (.aload 6, 2) := by decide +kernel
theorem dX7_come_145 : decode cX7_come 145 = .ok (.iconst 0, 1) := by decide +kernel
theorem dX7_come_146 : decode cX7_come 146 = .ok (.aload_n 0, 1) := by decide +kernel
theorem dX7_come_147 : decode cX7_come 147 = .ok (.getfield 38, 3) := by decide +kernel
theorem dX7_come_150 : decode cX7_come 150 = .ok (.getfield 98, 3) := by decide +kernel
theorem dX7_come_153 : decode cX7_come 153 = .ok (.bipush 10, 2) := by decide +kernel
theorem dX7_come_155 : decode cX7_come 155 = .ok (.aload_n 0, 1) := by decide +kernel
theorem dX7_come_156 : decode cX7_come 156 = .ok (.getfield 56, 3) := by decide +kernel
theorem dX7_come_159 : decode cX7_come 159 = .ok (.imul, 1) := by decide +kernel
theorem dX7_come_160 : decode cX7_come 160 = .ok (.bipush 10, 2) := by decide +kernel
theorem dX7_come_162 : decode cX7_come 162 = .ok (.invokestatic 101, 3) := by decide +kernel
theorem dX7_come_165 : decode cX7_come 165 = .ok (.aload_n 0, 1) := by decide +kernel
theorem dX7_come_166 : decode cX7_come 166 = .ok (.dup, 1) := by decide +kernel
theorem dX7_come_167 : decode cX7_come 167 = .ok (.getfield 56, 3) := by decide +kernel
theorem dX7_come_170 : decode cX7_come 170 = .ok (.iconst 1, 1) := by decide +kernel
theorem dX7_come_171 : decode cX7_come 171 = .ok (.iadd, 1) := by decide +kernel
theorem dX7_come_172 : decode cX7_come 172 = .ok (.putfield 56, 3) := by decide +kernel
theorem dX7_come_175 : decode cX7_come 175 = .ok (.aload_n 0, 1) := by decide +kernel
theorem dX7_come_176 : decode cX7_come 176 = .ok (.getfield 56, 3) := by decide +kernel
theorem dX7_come_179 : decode cX7_come 179 = .ok (.iconst 1, 1) := by decide +kernel
theorem dX7_come_180 : decode cX7_come 180 = .ok (.isub, 1) := by decide +kernel
theorem dX7_come_181 : decode cX7_come 181 = .ok (.ireturn, 1) := by decide +kernel
set_option maxRecDepth 100000 in
theorem ggX7_order_X7_isTeam : GoodIn wsX7_order wsX7_isTeam := goodIn_r _ [7, 8, 9, 10, 6, 11, 25, 26, 27, 28, 29, 30, 31, 32, 33, 34, 35, 36, 37, 38] rfl (by decide +kernel)
set_option maxRecDepth 100000 in
theorem gX7_order_X7_isTeam : GoodIn wsX7_order (wsV RX7 110 RX7 yX7_isTeam wsX7_isTeam) := goodIn_app (goodIn_of _ (by decide +kernel)) ggX7_order_X7_isTeam
set_option maxRecDepth 100000 in
theorem ggX7_order_X7_no : GoodIn wsX7_order wsX7_no := goodIn_r _ [15, 1, 25, 26, 27, 28, 29, 30, 31, 32, 33, 34, 35, 36, 37, 38] rfl (by decide +kernel)
set_option maxRecDepth 100000 in
theorem gX7_order_X7_no : GoodIn wsX7_order (wsV RX7 72 RX7 yX7_no wsX7_no) := goodIn_app (goodIn_of _ (by decide +kernel)) ggX7_order_X7_no
theorem dX7_order_0 : decode cX7_order 0 = .ok (.aload_n 0, 1) := by decide +kernel
theorem dX7_order_1 : decode cX7_order 1 = .ok (.iconst 0, 1) := by decide +kernel
theorem dX7_order_2 : decode cX7_order 2 = .ok (.putfield 48, 3) := by decide +kernel
theorem dX7_order_5 : decode cX7_order 5 = .ok (.aload_n 0, 1) := by decide +kernel
theorem dX7_order_6 : decode cX7_order 6 = .ok (.iload_n 1, 1) := by decide +kernel
theorem dX7_order_7 : decode cX7_order 7 = .ok (.invokevirtual 110, 3) := by decide +kernel
theorem dX7_order_10 : decode cX7_order 10 = .ok (.ifCond .ne 9, 3) := by decide +kernel
theorem dX7_order_13 : decode cX7_order 13 = .ok (.aload_n 0, 1) := by decide +kernel
theorem dX7_order_14 : decode cX7_order 14 = .ok (.iconst 1, 1) := by decide +kernel
theorem dX7_order_15 : decode cX7_order 15 = .ok (.invokevirtual 72, 3) := by decide +kernel
theorem dX7_order_18 : decode cX7_order 18 = .ok (.ireturn, 1) := by decide +kernel
theorem dX7_order_19 : decode cX7_order 19 = .ok (.iload_n 2, 1) := by decide +kernel
theorem dX7_order_20 : decode cX7_order 20 = .ok (.iconst 0, 1) := by decide +kernel
theorem dX7_order_21 : decode cX7_order 21 = .ok (.bipush 6, 2) := by decide +kernel
theorem dX7_order_23 : decode cX7_order 23 = .ok (.invokestatic 52, 3) := by decide +kernel
theorem dX7_order_26 : decode cX7_order 26 = .ok (.ifCond .eq 23, 3) := by decide +kernel
theorem dX7_order_29 : decode cX7_order 29 = .ok (.iload_n 3, 1) := by decide +kernel
theorem dX7_order_30 : decode cX7_order 30 = .ok (.iconst 0, 1) := by decide +kernel
theorem dX7_order_31 : decode cX7_order 31 = .ok (.iconst 3, 1) := by decide +kernel
theorem dX7_order_32 : decode cX7_order 32 = .ok (.invokestatic 52, 3) := by decide +kernel
theorem dX7_order_35 : decode cX7_order 35 = .ok (.ifCond .eq 14, 3) := by decide +kernel
theorem dX7_order_38 : decode cX7_order 38 = .ok (.iload 4, 2) := by decide +kernel
theorem dX7_order_40 : decode cX7_order 40 = .ok (.iconst 1, 1) := by decide +kernel
theorem dX7_order_41 : decode cX7_order 41 = .ok (.bipush 20, 2) := by decide +kernel
theorem dX7_order_43 : decode cX7_order 43 = .ok (.invokestatic 52, 3) := by decide +kernel
theorem dX7_order_46 : decode cX7_order 46 = .ok (.ifCond .ne 9, 3) := by decide +kernel
theorem dX7_order_49 : decode cX7_order 49 = .ok (.aload_n 0, 1) := by decide +kernel
theorem dX7_order_50 : decode cX7_order 50 = .ok (.iconst 2, 1) := by decide +kernel
theorem dX7_order_51 : decode cX7_order 51 = .ok (.invokevirtual 72, 3) := by decide +kernel
theorem dX7_order_54 : decode cX7_order 54 = .ok (.ireturn, 1) := by decide +kernel
theorem dX7_order_55 : decode cX7_order 55 = .ok (.aload_n 0, 1) := by decide +kernel
theorem dX7_order_56 : decode cX7_order 56 = .ok (.getfield 38, 3) := by decide +kernel
theorem dX7_order_59 : decode cX7_order 59 = .ok (.iload_n 1, 1) := by decide +kernel
theorem dX7_order_60 : decode cX7_order 60 = .ok (.invokevirtual 113, 3) := by decide +kernel
theorem dX7_order_63 : decode cX7_order 63 = .ok (.ifCond .ne 22, 3) := by decide +kernel
theorem dX7_order_66 : decode cX7_order 66 = .ok (.aload_n 0, 1) := by decide +kernel
theorem dX7_order_67 : decode cX7_order 67 = .ok (.getfield 38, 3) := by decide +kernel
theorem dX7_order_70 : decode cX7_order 70 = .ok (.getfield 98, 3) := by decide +kernel
theorem dX7_order_73 : decode cX7_order 73 = .ok (.bipush 10, 2) := by decide +kernel
theorem dX7_order_75 : decode cX7_order 75 = .ok (.iload_n 1, 1) := by decide +kernel
theorem dX7_order_76 : decode cX7_order 76 = .ok (.imul, 1) := by decide +kernel
theorem dX7_order_77 : decode cX7_order 77 = .ok (.iconst 4, 1) := by decide +kernel
theorem dX7_order_78 : decode cX7_order 78 = .ok (.iadd, 1) := by decide +kernel
theorem dX7_order_79 : decode cX7_order 79 = .ok (.iaload, 1) := by decide +kernel
theorem dX7_order_80 : decode cX7_order 80 = .ok (.bipush 12, 2) := by decide +kernel
theorem dX7_order_82 : decode cX7_order 82 = .ok (.if_icmp .ne 9, 3) := by decide +kernel
theorem dX7_order_85 : decode cX7_order 85 = .ok (.aload_n 0, 1) := by decide +kernel
theorem dX7_order_86 : decode cX7_order 86 = .ok (.iconst 3, 1) := by decide +kernel
theorem dX7_order_87 : decode cX7_order 87 = .ok (.invokevirtual 72, 3) := by decide +kernel
theorem dX7_order_90 : decode cX7_order 90 = .ok (.ireturn, 1) := by decide +kernel
theorem dX7_order_91 : decode cX7_order 91 = .ok (.aload_n 0, 1) := by decide +kernel
theorem dX7_order_92 : decode cX7_order 92 = .ok (.getfield 38, 3) := by decide +kernel
theorem dX7_order_95 : decode cX7_order 95 = .ok (.iload_n 1, 1) := by decide +kernel
theorem dX7_order_96 : decode cX7_order 96 = .ok (.iload_n 2, 1) := by decide +kernel
theorem dX7_order_97 : decode cX7_order 97 = .ok (.iload_n 3, 1) := by decide +kernel
theorem dX7_order_98 : decode cX7_order 98 = .ok (.iload 4, 2) := by decide +kernel
theorem dX7_order_100 : decode cX7_order 100 = .ok (.invokestatic 116, 3) := by decide +kernel
theorem dX7_order_103 : decode cX7_order 103 = .ok (.aload_n 0, 1) := by decide +kernel
theorem dX7_order_104 : decode cX7_order 104 = .ok (.getfield 38, 3) := by decide +kernel
theorem dX7_order_107 : decode cX7_order 107 = .ok (.getfield 98, 3) := by decide +kernel
theorem dX7_order_110 : decode cX7_order 110 = .ok (.bipush 10, 2) := by decide +kernel
theorem dX7_order_112 : decode cX7_order 112 = .ok (.iload_n 1, 1) := by decide +kernel
theorem dX7_order_113 : decode cX7_order 113 = .ok (.imul, 1) := by decide +kernel
theorem dX7_order_114 : decode cX7_order 114 = .ok (.iconst 4, 1) := by decide +kernel
theorem dX7_order_115 : decode cX7_order 115 = .ok (.iadd, 1) := by decide +kernel
theorem dX7_order_116 : decode cX7_order 116 = .ok (.iaload, 1) := by decide +kernel
theorem dX7_order_117 : decode cX7_order 117 = .ok (.ireturn, 1) := by decide +kernel
set_option maxRecDepth 100000 in
theorem ggX7_clear_X7_isTeam : GoodIn wsX7_clear wsX7_isTeam := goodIn_r _ [7, 8, 9, 10, 6, 11, 16, 17, 18, 19, 20, 21, 22, 23, 24, 25, 26, 27, 28, 29] rfl (by decide +kernel)
set_option maxRecDepth 100000 in
theorem gX7_clear_X7_isTeam : GoodIn wsX7_clear (wsV RX7 110 RX7 yX7_isTeam wsX7_isTeam) := goodIn_app (goodIn_of _ (by decide +kernel)) ggX7_clear_X7_isTeam
set_option maxRecDepth 100000 in
theorem ggX7_clear_X7_no : GoodIn wsX7_clear wsX7_no := goodIn_r _ [15, 1, 16, 17, 18, 19, 20, 21, 22, 23, 24, 25, 26, 27, 28, 29] rfl (by decide +kernel)
set_option maxRecDepth 100000 in
theorem gX7_clear_X7_no : GoodIn wsX7_clear (wsV RX7 72 RX7 yX7_no wsX7_no) := goodIn_app (goodIn_of _ (by decide +kernel)) ggX7_clear_X7_no
theorem dX7_clear_0 : decode cX7_clear 0 = .ok (.aload_n 0, 1) := by decide +kernel
theorem dX7_clear_1 : decode cX7_clear 1 = .ok (.iconst 0, 1) := by decide +kernel
theorem dX7_clear_2 : decode cX7_clear 2 = .ok (.putfield 48, 3) := by decide +kernel
theorem dX7_clear_5 : decode cX7_clear 5 = .ok (.aload_n 0, 1) := by decide +kernel
theorem dX7_clear_6 : decode cX7_clear 6 = .ok (.iload_n 1, 1) := by decide +kernel
theorem dX7_clear_7 : decode cX7_clear 7 = .ok (.invokevirtual 110, 3) := by decide +kernel
theorem dX7_clear_10 : decode cX7_clear 10 = .ok (.ifCond .ne 9, 3) := by decide +kernel
theorem dX7_clear_13 : decode cX7_clear 13 = .ok (.aload_n 0, 1) := by decide +kernel
theorem dX7_clear_14 : decode cX7_clear 14 = .ok (.iconst 1, 1) := by decide +kernel
theorem dX7_clear_15 : decode cX7_clear 15 = .ok (.invokevirtual 72, 3) := by decide +kernel
theorem dX7_clear_18 : decode cX7_clear 18 = .ok (.ireturn, 1) := by decide +kernel
theorem dX7_clear_19 : decode cX7_clear 19 = .ok (.aload_n 0, 1) := by decide +kernel
theorem dX7_clear_20 : decode cX7_clear 20 = .ok (.getfield 38, 3) := by decide +kernel
theorem dX7_clear_23 : decode cX7_clear 23 = .ok (.getfield 98, 3) := by decide +kernel
theorem dX7_clear_26 : decode cX7_clear 26 = .ok (.bipush 10, 2) := by decide +kernel
theorem dX7_clear_28 : decode cX7_clear 28 = .ok (.iload_n 1, 1) := by decide +kernel
theorem dX7_clear_29 : decode cX7_clear 29 = .ok (.imul, 1) := by decide +kernel
theorem dX7_clear_30 : decode cX7_clear 30 = .ok (.iconst 4, 1) := by decide +kernel
theorem dX7_clear_31 : decode cX7_clear 31 = .ok (.iadd, 1) := by decide +kernel
theorem dX7_clear_32 : decode cX7_clear 32 = .ok (.iaload, 1) := by decide +kernel
theorem dX7_clear_33 : decode cX7_clear 33 = .ok (.istore_n 2, 1) := by decide +kernel
theorem dX7_clear_34 : decode cX7_clear 34 = .ok (.aload_n 0, 1) := by decide +kernel
theorem dX7_clear_35 : decode cX7_clear 35 = .ok (.getfield 38, 3) := by decide +kernel
theorem dX7_clear_38 : decode cX7_clear 38 = .ok (.getfield 98, 3) := by decide +kernel
theorem dX7_clear_41 : decode cX7_clear 41 = .ok (.bipush 10, 2) := by decide +kernel
theorem dX7_clear_43 : decode cX7_clear 43 = .ok (.iload_n 1, 1) := by decide +kernel
theorem dX7_clear_44 : decode cX7_clear 44 = .ok (.imul, 1) := by decide +kernel
theorem dX7_clear_45 : decode cX7_clear 45 = .ok (.iconst 4, 1) := by decide +kernel
theorem dX7_clear_46 : decode cX7_clear 46 = .ok (.iadd, 1) := by decide +kernel
theorem dX7_clear_47 : decode cX7_clear 47 = .ok (.iconst 0, 1) := by decide +kernel
theorem dX7_clear_48 : decode cX7_clear 48 = .ok (.iastore, 1) := by decide +kernel
theorem dX7_clear_49 : decode cX7_clear 49 = .ok (.iload_n 2, 1) := by decide +kernel
theorem dX7_clear_50 : decode cX7_clear 50 = .ok (.ireturn, 1) := by decide +kernel
set_option maxRecDepth 100000 in
theorem ggX7_team_X7_isTeam : GoodIn wsX7_team wsX7_isTeam := goodIn_r _ [6, 7, 8, 9, 5, 10, 27, 28, 29, 30, 31, 32, 33, 34, 35, 36, 37, 38, 39, 40] rfl (by decide +kernel)
set_option maxRecDepth 100000 in
theorem gX7_team_X7_isTeam : GoodIn wsX7_team (wsV RX7 110 RX7 yX7_isTeam wsX7_isTeam) := goodIn_app (goodIn_of _ (by decide +kernel)) ggX7_team_X7_isTeam
set_option maxRecDepth 100000 in
theorem ggX7_team_X7_no : GoodIn wsX7_team wsX7_no := goodIn_r _ [26, 1, 27, 28, 29, 30, 31, 32, 33, 34, 35, 36, 37, 38, 39, 40] rfl (by decide +kernel)
set_option maxRecDepth 100000 in
theorem gX7_team_X7_no : GoodIn wsX7_team (wsV RX7 72 RX7 yX7_no wsX7_no) := goodIn_app (goodIn_of _ (by decide +kernel)) ggX7_team_X7_no
theorem dX7_team_0 : decode cX7_team 0 = .ok (.aload_n 0, 1) := by decide +kernel
theorem dX7_team_1 : decode cX7_team 1 = .ok (.iconst 0, 1) := by decide +kernel
theorem dX7_team_2 : decode cX7_team 2 = .ok (.putfield 48, 3) := by decide +kernel
theorem dX7_team_5 : decode cX7_team 5 = .ok (.aload_n 0, 1) := by decide +kernel
theorem dX7_team_6 : decode cX7_team 6 = .ok (.iload_n 1, 1) := by decide +kernel
theorem dX7_team_7 : decode cX7_team 7 = .ok (.invokevirtual 110, 3) := by decide +kernel
theorem dX7_team_10 : decode cX7_team 10 = .ok (.ifCond .eq 22, 3) := by decide +kernel
theorem dX7_team_13 : decode cX7_team 13 = .ok (.iload_n 2, 1) := by decide +kernel
theorem dX7_team_14 : decode cX7_team 14 = .ok (.iconst 0, 1) := by decide +kernel
theorem dX7_team_15 : decode cX7_team 15 = .ok (.bipush 9, 2) := by decide +kernel
theorem dX7_team_17 : decode cX7_team 17 = .ok (.invokestatic 52, 3) := by decide +kernel
theorem dX7_team_20 : decode cX7_team 20 = .ok (.ifCond .eq 12, 3) := by decide +kernel
theorem dX7_team_23 : decode cX7_team 23 = .ok (.aload_n 0, 1) := by decide +kernel
theorem dX7_team_24 : decode cX7_team 24 = .ok (.iload_n 1, 1) := by decide +kernel
theorem dX7_team_25 : decode cX7_team 25 = .ok (.iload_n 2, 1) := by decide +kernel
theorem dX7_team_26 : decode cX7_team 26 = .ok (.invokevirtual 123, 3) := by decide +kernel
theorem dX7_team_29 : decode cX7_team 29 = .ok (.goto 8, 3) := by decide +kernel
theorem dX7_team_32 : decode cX7_team 32 = .ok (.aload_n 0, 1) := by decide +kernel
theorem dX7_team_33 : decode cX7_team 33 = .ok (.iconst 1, 1) := by decide +kernel
theorem dX7_team_34 : decode cX7_team 34 = .ok (.invokevirtual 72, 3) := by decide +kernel
theorem dX7_team_37 : decode cX7_team 37 = .ok (.ireturn, 1) := by decide +kernel
set_option maxRecDepth 100000 in
theorem ggX7_heard_X7_isTeam : GoodIn wsX7_heard wsX7_isTeam := goodIn_r _ [7, 8, 9, 10, 6, 11, 16, 17, 18, 19, 20, 21, 22, 23, 24, 25, 26, 27, 28, 29] rfl (by decide +kernel)
set_option maxRecDepth 100000 in
theorem gX7_heard_X7_isTeam : GoodIn wsX7_heard (wsV RX7 110 RX7 yX7_isTeam wsX7_isTeam) := goodIn_app (goodIn_of _ (by decide +kernel)) ggX7_heard_X7_isTeam
set_option maxRecDepth 100000 in
theorem ggX7_heard_X7_no : GoodIn wsX7_heard wsX7_no := goodIn_r _ [15, 1, 16, 17, 18, 19, 20, 21, 22, 23, 24, 25, 26, 27, 28, 29] rfl (by decide +kernel)
set_option maxRecDepth 100000 in
theorem gX7_heard_X7_no : GoodIn wsX7_heard (wsV RX7 72 RX7 yX7_no wsX7_no) := goodIn_app (goodIn_of _ (by decide +kernel)) ggX7_heard_X7_no
theorem dX7_heard_0 : decode cX7_heard 0 = .ok (.aload_n 0, 1) := by decide +kernel
theorem dX7_heard_1 : decode cX7_heard 1 = .ok (.iconst 0, 1) := by decide +kernel
theorem dX7_heard_2 : decode cX7_heard 2 = .ok (.putfield 48, 3) := by decide +kernel
theorem dX7_heard_5 : decode cX7_heard 5 = .ok (.aload_n 0, 1) := by decide +kernel
theorem dX7_heard_6 : decode cX7_heard 6 = .ok (.iload_n 1, 1) := by decide +kernel
theorem dX7_heard_7 : decode cX7_heard 7 = .ok (.invokevirtual 110, 3) := by decide +kernel
theorem dX7_heard_10 : decode cX7_heard 10 = .ok (.ifCond .eq 32, 3) := by decide +kernel
theorem dX7_heard_13 : decode cX7_heard 13 = .ok (.iload_n 2, 1) := by decide +kernel
theorem dX7_heard_14 : decode cX7_heard 14 = .ok (.iconst 0, 1) := by decide +kernel
theorem dX7_heard_15 : decode cX7_heard 15 = .ok (.iconst 2, 1) := by decide +kernel
theorem dX7_heard_16 : decode cX7_heard 16 = .ok (.invokestatic 52, 3) := by decide +kernel
theorem dX7_heard_19 : decode cX7_heard 19 = .ok (.ifCond .eq 23, 3) := by decide +kernel
theorem dX7_heard_22 : decode cX7_heard 22 = .ok (.aload_n 0, 1) := by decide +kernel
theorem dX7_heard_23 : decode cX7_heard 23 = .ok (.getfield 38, 3) := by decide +kernel
theorem dX7_heard_26 : decode cX7_heard 26 = .ok (.getfield 98, 3) := by decide +kernel
theorem dX7_heard_29 : decode cX7_heard 29 = .ok (.bipush 10, 2) := by decide +kernel
theorem dX7_heard_31 : decode cX7_heard 31 = .ok (.iload_n 1, 1) := by decide +kernel
theorem dX7_heard_32 : decode cX7_heard 32 = .ok (.imul, 1) := by decide +kernel
theorem dX7_heard_33 : decode cX7_heard 33 = .ok (.bipush 7, 2) := by decide +kernel
theorem dX7_heard_35 : decode cX7_heard 35 = .ok (.iadd, 1) := by decide +kernel
theorem dX7_heard_36 : decode cX7_heard 36 = .ok (.iload_n 2, 1) := by decide +kernel
theorem dX7_heard_37 : decode cX7_heard 37 = .ok (.iadd, 1) := by decide +kernel
theorem dX7_heard_38 : decode cX7_heard 38 = .ok (.iaload, 1) := by decide +kernel
theorem dX7_heard_39 : decode cX7_heard 39 = .ok (.goto 8, 3) := by decide +kernel
theorem dX7_heard_42 : decode cX7_heard 42 = .ok (.aload_n 0, 1) := by decide +kernel
theorem dX7_heard_43 : decode cX7_heard 43 = .ok (.iconst 1, 1) := by decide +kernel
theorem dX7_heard_44 : decode cX7_heard 44 = .ok (.invokevirtual 72, 3) := by decide +kernel
theorem dX7_heard_47 : decode cX7_heard 47 = .ok (.ireturn, 1) := by decide +kernel
theorem dX7_fight_0 : decode cX7_fight 0 = .ok (.iconst 0, 1) := by decide +kernel
theorem dX7_fight_1 : decode cX7_fight 1 = .ok (.istore_n 2, 1) := by decide +kernel
theorem dX7_fight_2 : decode cX7_fight 2 = .ok (.iload_n 2, 1) := by decide +kernel
theorem dX7_fight_3 : decode cX7_fight 3 = .ok (.aload_n 0, 1) := by decide +kernel
theorem dX7_fight_4 : decode cX7_fight 4 = .ok (.getfield 56, 3) := by decide +kernel
theorem dX7_fight_7 : decode cX7_fight 7 = .ok (.if_icmp .ge 84, 3) := by decide +kernel
theorem dX7_fight_10 : decode cX7_fight 10 = .ok (.aload_n 0, 1) := by decide +kernel
theorem dX7_fight_11 : decode cX7_fight 11 = .ok (.getfield 22, 3) := by decide +kernel
theorem dX7_fight_14 : decode cX7_fight 14 = .ok (.iload_n 2, 1) := by decide +kernel
theorem dX7_fight_15 : decode cX7_fight 15 = .ok (.iconst 0, 1) := by decide +kernel
theorem dX7_fight_16 : decode cX7_fight 16 = .ok (.iastore, 1) := by decide +kernel
theorem dX7_fight_17 : decode cX7_fight 17 = .ok (.iconst 0, 1) := by decide +kernel
theorem dX7_fight_18 : decode cX7_fight 18 = .ok (.istore_n 3, 1) := by decide +kernel
theorem dX7_fight_19 : decode cX7_fight 19 = .ok (.iload_n 3, 1) := by decide +kernel
theorem dX7_fight_20 : decode cX7_fight 20 = .ok (.aload_n 0, 1) := by decide +kernel
theorem dX7_fight_21 : decode cX7_fight 21 = .ok (.getfield 56, 3) := by decide +kernel
theorem dX7_fight_24 : decode cX7_fight 24 = .ok (.if_icmp .ge 61, 3) := by decide +kernel
theorem dX7_fight_27 : decode cX7_fight 27 = .ok (.aload_n 0, 1) := by decide +kernel
theorem dX7_fight_28 : decode cX7_fight 28 = .ok (.getfield 28, 3) := by decide +kernel
theorem dX7_fight_31 : decode cX7_fight 31 = .ok (.iload_n 2, 1) := by decide +kernel
theorem dX7_fight_32 : decode cX7_fight 32 = .ok (.baload, 1) := by decide +kernel
theorem dX7_fight_33 : decode cX7_fight 33 = .ok (.ifCond .eq 52, 3) := by decide +kernel
theorem dX7_fight_36 : decode cX7_fight 36 = .ok (.aload_n 0, 1) := by decide +kernel
theorem dX7_fight_37 : decode cX7_fight 37 = .ok (.getfield 22, 3) := by decide +kernel
theorem dX7_fight_40 : decode cX7_fight 40 = .ok (.iload_n 2, 1) := by decide +kernel
theorem dX7_fight_41 : decode cX7_fight 41 = .ok (.dup2, 1) := by decide +kernel
theorem dX7_fight_42 : decode cX7_fight 42 = .ok (.iaload, 1) := by decide +kernel
theorem dX7_fight_43 : decode cX7_fight 43 = .ok (.aload_n 0, 1) := by decide +kernel
theorem dX7_fight_44 : decode cX7_fight 44 = .ok (.getfield 28, 3) := by decide +kernel
theorem dX7_fight_47 : decode cX7_fight 47 = .ok (.iload_n 3, 1) := by decide +kernel
theorem dX7_fight_48 : decode cX7_fight 48 = .ok (.baload, 1) := by decide +kernel
theorem dX7_fight_49 : decode cX7_fight 49 = .ok (.ifCond .eq 27, 3) := by decide +kernel
theorem dX7_fight_52 : decode cX7_fight 52 = .ok (.aload_n 0, 1) := by decide +kernel
theorem dX7_fight_53 : decode cX7_fight 53 = .ok (.aload_n 1, 1) := by decide +kernel
theorem dX7_fight_54 : decode cX7_fight 54 = .ok (.iload_n 2, 1) := by decide +kernel
theorem dX7_fight_55 : decode cX7_fight 55 = .ok (.iload_n 3, 1) := by decide +kernel
theorem dX7_fight_56 : decode cX7_fight 56 = .ok (.invokevirtual 129, 3) := by decide +kernel
theorem dX7_fight_59 : decode cX7_fight 59 = .ok (.ifCond .eq 17, 3) := by decide +kernel
theorem dX7_fight_62 : decode cX7_fight 62 = .ok (.aload_n 0, 1) := by decide +kernel
theorem dX7_fight_63 : decode cX7_fight 63 = .ok (.aload_n 1, 1) := by decide +kernel
theorem dX7_fight_64 : decode cX7_fight 64 = .ok (.iload_n 2, 1) := by decide +kernel
theorem dX7_fight_65 : decode cX7_fight 65 = .ok (.iload_n 3, 1) := by decide +kernel
theorem dX7_fight_66 : decode cX7_fight 66 = .ok (.invokevirtual 133, 3) := by decide +kernel
theorem dX7_fight_69 : decode cX7_fight 69 = .ok (.ifCond .eq 7, 3) := by decide +kernel
theorem dX7_fight_72 : decode cX7_fight 72 = .ok (.iconst 1, 1) := by decide +kernel
theorem dX7_fight_73 : decode cX7_fight 73 = .ok (.goto 4, 3) := by decide +kernel
theorem dX7_fight_76 : decode cX7_fight 76 = .ok (.iconst 0, 1) := by decide +kernel
theorem dX7_fight_77 : decode cX7_fight 77 = .ok (.iadd, 1) := by decide +kernel
theorem dX7_fight_78 : decode cX7_fight 78 = .ok (.iastore, 1) := by decide +kernel
theorem dX7_fight_79 : decode cX7_fight 79 = .ok (.iinc 3 1, 3) := by decide +kernel
theorem dX7_fight_82 : decode cX7_fight 82 = .ok (.goto (-63), 3) := by decide +kernel
theorem dX7_fight_85 : decode cX7_fight 85 = .ok (.iinc 2 1, 3) := by decide +kernel
theorem dX7_fight_88 : decode cX7_fight 88 = .ok (.goto (-86), 3) := by decide +kernel
theorem dX7_fight_91 : decode cX7_fight 91 = .ok (.iconst 0, 1) := by decide +kernel
theorem dX7_fight_92 : decode cX7_fight 92 = .ok (.istore_n 2, 1) := by decide +kernel
theorem dX7_fight_93 : decode cX7_fight 93 = .ok (.iload_n 2, 1) := by decide +kernel
theorem dX7_fight_94 : decode cX7_fight 94 = .ok (.aload_n 0, 1) := by decide +kernel
theorem dX7_fight_95 : decode cX7_fight 95 = .ok (.getfield 56, 3) := by decide +kernel
theorem dX7_fight_98 : decode cX7_fight 98 = .ok (.if_icmp .ge 46, 3) := by decide +kernel
theorem dX7_fight_101 : decode cX7_fight 101 = .ok (.aload_n 1, 1) := by decide +kernel
theorem dX7_fight_102 : decode cX7_fight 102 = .ok (.getfield 98, 3) := by decide +kernel
theorem dX7_fight_105 : decode cX7_fight 105 = .ok (.bipush 10, 2) := by decide +kernel
theorem dX7_fight_107 : decode cX7_fight 107 = .ok (.iload_n 2, 1) := by decide +kernel
theorem dX7_fight_108 : decode cX7_fight 108 = .ok (.imul, 1) := by decide +kernel
theorem dX7_fight_109 : decode cX7_fight 109 = .ok (.iconst 2, 1) := by decide +kernel
theorem dX7_fight_110 : decode cX7_fight 110 = .ok (.iadd, 1) := by decide +kernel
theorem dX7_fight_111 : decode cX7_fight 111 = .ok (.iconst 0, 1) := by decide +kernel
theorem dX7_fight_112 : decode cX7_fight 112 = .ok (.aload_n 1, 1) := by decide +kernel
theorem dX7_fight_113 : decode cX7_fight 113 = .ok (.getfield 98, 3) := by decide +kernel
theorem dX7_fight_116 : decode cX7_fight 116 = .ok (.bipush 10, 2) := by decide +kernel
theorem dX7_fight_118 : decode cX7_fight 118 = .ok (.iload_n 2, 1) := by decide +kernel
theorem dX7_fight_119 : decode cX7_fight 119 = .ok (.imul, 1) := by decide +kernel
theorem dX7_fight_120 : decode cX7_fight 120 = .ok (.iconst 2, 1) := by decide +kernel
theorem dX7_fight_121 : decode cX7_fight 121 = .ok (.iadd, 1) := by decide +kernel
theorem dX7_fight_122 : decode cX7_fight 122 = .ok (.iaload, 1) := by decide +kernel
theorem dX7_fight_123 : decode cX7_fight 123 = .ok (.iconst 3, 1) := by decide +kernel
theorem dX7_fight_124 : decode cX7_fight 124 = .ok (.aload_n 0, 1) := by decide +kernel
theorem dX7_fight_125 : decode cX7_fight 125 = .ok (.getfield 22, 3) := by decide +kernel
theorem dX7_fight_128 : decode cX7_fight 128 = .ok (.iload_n 2, 1) := by decide +kernel
theorem dX7_fight_129 : decode cX7_fight 129 = .ok (.iaload, 1) := by decide +kernel
theorem dX7_fight_130 : decode cX7_fight 130 = .ok (.invokestatic 165, 3) := by decide +kernel
theorem dX7_fight_133 : decode cX7_fight 133 = .ok (.isub, 1) := by decide +kernel
theorem dX7_fight_134 : decode cX7_fight 134 = .ok (.invokestatic 168, 3) := by decide +kernel
theorem dX7_fight_137 : decode cX7_fight 137 = .ok (.iastore, 1) := by decide +kernel
theorem dX7_fight_138 : decode cX7_fight 138 = .ok (.iinc 2 1, 3) := by decide +kernel
theorem dX7_fight_141 : decode cX7_fight 141 = .ok (.goto (-48), 3) := by decide +kernel
theorem dX7_fight_144 : decode cX7_fight 144 = .ok (.return_, 1) := by decide +kernel
set_option maxRecDepth 100000 in
theorem ggX7_drift_X6_isTunnel : GoodIn wsX7_drift wsX6_isTunnel := goodIn_r _ [10, 11, 36, 37, 38, 39, 40] rfl (by decide +kernel)
set_option maxRecDepth 100000 in
theorem gX7_drift_X6_isTunnel : GoodIn wsX7_drift (wsV RX7 87 RX6 yX6_isTunnel wsX6_isTunnel) := goodIn_app (goodIn_of _ (by decide +kernel)) ggX7_drift_X6_isTunnel
theorem dX7_drift_0 : decode cX7_drift 0 = .ok (.iconst 0, 1) := by decide +kernel
theorem dX7_drift_1 : decode cX7_drift 1 = .ok (.istore_n 2, 1) := by decide +kernel
theorem dX7_drift_2 : decode cX7_drift 2 = .ok (.iload_n 2, 1) := by decide +kernel
theorem dX7_drift_3 : decode cX7_drift 3 = .ok (.sipush 144, 3) := by decide +kernel
theorem dX7_drift_6 : decode cX7_drift 6 = .ok (.if_icmp .ge 26, 3) := by decide +kernel
theorem dX7_drift_9 : decode cX7_drift 9 = .ok (.aload_n 0, 1) := by decide +kernel
theorem dX7_drift_10 : decode cX7_drift 10 = .ok (.getfield 22, 3) := by decide +kernel
theorem dX7_drift_13 : decode cX7_drift 13 = .ok (.iload_n 2, 1) := by decide +kernel
theorem dX7_drift_14 : decode cX7_drift 14 = .ok (.aload_n 1, 1) := by decide +kernel
theorem dX7_drift_15 : decode cX7_drift 15 = .ok (.getfield 45, 3) := by decide +kernel
theorem dX7_drift_18 : decode cX7_drift 18 = .ok (.bipush 8, 2) := by decide +kernel
theorem dX7_drift_20 : decode cX7_drift 20 = .ok (.iload_n 2, 1) := by decide +kernel
theorem dX7_drift_21 : decode cX7_drift 21 = .ok (.imul, 1) := by decide +kernel
theorem dX7_drift_22 : decode cX7_drift 22 = .ok (.iconst 5, 1) := by decide +kernel
theorem dX7_drift_23 : decode cX7_drift 23 = .ok (.iadd, 1) := by decide +kernel
theorem dX7_drift_24 : decode cX7_drift 24 = .ok (.iaload, 1) := by decide +kernel
theorem dX7_drift_25 : decode cX7_drift 25 = .ok (.iastore, 1) := by decide +kernel
theorem dX7_drift_26 : decode cX7_drift 26 = .ok (.iinc 2 1, 3) := by decide +kernel
theorem dX7_drift_29 : decode cX7_drift 29 = .ok (.goto (-27), 3) := by decide +kernel
theorem dX7_drift_32 : decode cX7_drift 32 = .ok (.iconst 0, 1) := by decide +kernel
theorem dX7_drift_33 : decode cX7_drift 33 = .ok (.istore_n 2, 1) := by decide +kernel
theorem dX7_drift_34 : decode cX7_drift 34 = .ok (.iload_n 2, 1) := by decide +kernel
theorem dX7_drift_35 : decode cX7_drift 35 = .ok (.sipush 144, 3) := by decide +kernel
theorem dX7_drift_38 : decode cX7_drift 38 = .ok (.if_icmp .ge 99, 3) := by decide +kernel
theorem dX7_drift_41 : decode cX7_drift 41 = .ok (.aload_n 1, 1) := by decide +kernel
theorem dX7_drift_42 : decode cX7_drift 42 = .ok (.iload_n 2, 1) := by decide +kernel
theorem dX7_drift_43 : decode cX7_drift 43 = .ok (.invokevirtual 87, 3) := by decide +kernel
theorem dX7_drift_46 : decode cX7_drift 46 = .ok (.ifCond .ne 6, 3) := by decide +kernel
theorem dX7_drift_49 : decode cX7_drift 49 = .ok (.goto 82, 3) := by decide +kernel
theorem dX7_drift_52 : decode cX7_drift 52 = .ok (.aload_n 0, 1) := by decide +kernel
theorem dX7_drift_53 : decode cX7_drift 53 = .ok (.getfield 22, 3) := by decide +kernel
theorem dX7_drift_56 : decode cX7_drift 56 = .ok (.iload_n 2, 1) := by decide +kernel
theorem dX7_drift_57 : decode cX7_drift 57 = .ok (.iaload, 1) := by decide +kernel
theorem dX7_drift_58 : decode cX7_drift 58 = .ok (.istore_n 3, 1) := by decide +kernel
theorem dX7_drift_59 : decode cX7_drift 59 = .ok (.iconst 1, 1) := by decide +kernel
theorem dX7_drift_60 : decode cX7_drift 60 = .ok (.istore 4, 2) := by decide +kernel
theorem dX7_drift_62 : decode cX7_drift 62 = .ok (.iconst 0, 1) := by decide +kernel
theorem dX7_drift_63 : decode cX7_drift 63 = .ok (.istore 5, 2) := by decide +kernel
theorem dX7_drift_65 : decode cX7_drift 65 = .ok (.iload 5, 2) := by decide +kernel
theorem dX7_drift_67 : decode cX7_drift 67 = .ok (.iconst 4, 1) := by decide +kernel
theorem dX7_drift_68 : decode cX7_drift 68 = .ok (.if_icmp .ge 42, 3) := by decide +kernel
theorem dX7_drift_71 : decode cX7_drift 71 = .ok (.iload_n 2, 1) := by decide +kernel
theorem dX7_drift_72 : decode cX7_drift 72 = .ok (.iload 5, 2) := by decide +kernel
theorem dX7_drift_74 : decode cX7_drift 74 = .ok (.invokestatic 147, 3) := by decide +kernel
theorem dX7_drift_77 : decode cX7_drift 77 = .ok (.istore 6, 2) := by decide +kernel
theorem dX7_drift_79 : decode cX7_drift 79 = .ok (.aload_n 1, 1) := by decide +kernel
theorem dX7_drift_80 : decode cX7_drift 80 = .ok (.iload 6, 2) := by decide +kernel
theorem dX7_drift_82 : decode cX7_drift 82 = .ok (.invokevirtual 87, 3) := by decide +kernel
theorem dX7_drift_85 : decode cX7_drift 85 = .ok (.ifCond .ne 6, 3) := by decide +kernel
theorem dX7_drift_88 : decode cX7_drift 88 = .ok (.goto 16, 3) := by decide +kernel
theorem dX7_drift_91 : decode cX7_drift 91 = .ok (.iload_n 3, 1) := by decide +kernel
theorem dX7_drift_92 : decode cX7_drift 92 = .ok (.aload_n 0, 1) := by decide +kernel
theorem dX7_drift_93 : decode cX7_drift 93 = .ok (.getfield 22, 3) := by decide +kernel
theorem dX7_drift_96 : decode cX7_drift 96 = .ok (.iload 6, 2) := by decide +kernel
theorem dX7_drift_98 : decode cX7_drift 98 = .ok (.iaload, 1) := by decide +kernel
theorem dX7_drift_99 : decode cX7_drift 99 = .ok (.iadd, 1) := by decide +kernel
theorem dX7_drift_100 : decode cX7_drift 100 = .ok (.istore_n 3, 1) := by decide +kernel
theorem dX7_drift_101 : decode cX7_drift 101 = .ok (.iinc 4 1, 3) := by decide +kernel
theorem dX7_drift_104 : decode cX7_drift 104 = .ok (.iinc 5 1, 3) := by decide +kernel
theorem dX7_drift_107 : decode cX7_drift 107 = .ok (.goto (-42), 3) := by decide +kernel
theorem dX7_drift_110 : decode cX7_drift 110 = .ok (.aload_n 1, 1) := by decide +kernel
theorem dX7_drift_111 : decode cX7_drift 111 = .ok (.getfield 45, 3) := by decide +kernel
theorem dX7_drift_114 : decode cX7_drift 114 = .ok (.bipush 8, 2) := by decide +kernel
theorem dX7_drift_116 : decode cX7_drift 116 = .ok (.iload_n 2, 1) := by decide +kernel
theorem dX7_drift_117 : decode cX7_drift 117 = .ok (.imul, 1) := by decide +kernel
theorem dX7_drift_118 : decode cX7_drift 118 = .ok (.iconst 5, 1) := by decide +kernel
theorem dX7_drift_119 : decode cX7_drift 119 = .ok (.iadd, 1) := by decide +kernel
theorem dX7_drift_120 : decode cX7_drift 120 = .ok (.iconst 0, 1) := by decide +kernel
theorem dX7_drift_121 : decode cX7_drift 121 = .ok (.iload_n 3, 1) := by decide +kernel
theorem dX7_drift_122 : decode cX7_drift 122 = .ok (.iload 4, 2) := by decide +kernel
theorem dX7_drift_124 : decode cX7_drift 124 = .ok (.idiv, 1) := by decide +kernel
theorem dX7_drift_125 : decode cX7_drift 125 = .ok (.iconst 1, 1) := by decide +kernel
theorem dX7_drift_126 : decode cX7_drift 126 = .ok (.isub, 1) := by decide +kernel
theorem dX7_drift_127 : decode cX7_drift 127 = .ok (.invokestatic 168, 3) := by decide +kernel
theorem dX7_drift_130 : decode cX7_drift 130 = .ok (.iastore, 1) := by decide +kernel
theorem dX7_drift_131 : decode cX7_drift 131 = .ok (.iinc 2 1, 3) := by decide +kernel
theorem dX7_drift_134 : decode cX7_drift 134 = .ok (.goto (-100), 3) := by decide +kernel
theorem dX7_drift_137 : decode cX7_drift 137 = .ok (.return_, 1) := by decide +kernel
set_option maxRecDepth 100000 in
theorem ggX7_hour_X7_fight : GoodIn wsX7_hour wsX7_fight := goodIn_r _ [83, 1, 84, 9, 85, 86, 37, 87, 88, 89, 90, 20, 21, 22, 7, 23, 24, 25, 26, 27, 28, 29, 30, 13, 31, 15, 32, 33, 34, 35, 36, 38, 106, 107, 108, 109, 110, 111, 112, 113, 114, 115, 116, 117, 118, 119, 120, 121, 122, 123, 124] rfl (by decide +kernel)
set_option maxRecDepth 100000 in
theorem gX7_hour_X7_fight : GoodIn wsX7_hour (wsV RX7 180 RX7 yX7_fight wsX7_fight) := goodIn_app (goodIn_of _ (by decide +kernel)) ggX7_hour_X7_fight
set_option maxRecDepth 100000 in
theorem ggX7_hour_X7_drift : GoodIn wsX7_hour wsX7_drift := goodIn_r _ [98, 84, 88, 89, 37, 90, 51, 52, 53, 13, 54, 55, 42, 43, 7, 44, 45, 46, 47, 48, 49, 50, 106, 107, 108, 109, 110, 111, 112, 113, 114, 115, 116, 117, 118, 119, 120, 121, 122, 123, 124] rfl (by decide +kernel)
set_option maxRecDepth 100000 in
theorem gX7_hour_X7_drift : GoodIn wsX7_hour (wsV RX7 187 RX7 yX7_drift wsX7_drift) := goodIn_app (goodIn_of _ (by decide +kernel)) ggX7_hour_X7_drift
set_option maxRecDepth 100000 in
theorem ggX7_hour_X6_isTunnel : GoodIn wsX7_hour wsX6_isTunnel := goodIn_r _ [54, 55, 120, 121, 122, 123, 124] rfl (by decide +kernel)
set_option maxRecDepth 100000 in
theorem gX7_hour_X6_isTunnel : GoodIn wsX7_hour (wsV RX7 87 RX6 yX6_isTunnel wsX6_isTunnel) := goodIn_app (goodIn_of _ (by decide +kernel)) ggX7_hour_X6_isTunnel
theorem dX7_hour_0 : decode cX7_hour 0 = .ok (.iconst 0, 1) := by decide +kernel
theorem dX7_hour_1 : decode cX7_hour 1 = .ok (.istore_n 2, 1) := by decide +kernel
theorem dX7_hour_2 : decode cX7_hour 2 = .ok (.iload_n 2, 1) := by decide +kernel
theorem dX7_hour_3 : decode cX7_hour 3 = .ok (.aload_n 0, 1) := by decide +kernel
theorem dX7_hour_4 : decode cX7_hour 4 = .ok (.getfield 56, 3) := by decide +kernel
theorem dX7_hour_7 : decode cX7_hour 7 = .ok (.if_icmp .ge 15, 3) := by decide +kernel
theorem dX7_hour_10 : decode cX7_hour 10 = .ok (.aload_n 0, 1) := by decide +kernel
theorem dX7_hour_11 : decode cX7_hour 11 = .ok (.aload_n 1, 1) := by decide +kernel
theorem dX7_hour_12 : decode cX7_hour 12 = .ok (.iload_n 2, 1) := by decide +kernel
theorem dX7_hour_13 : decode cX7_hour 13 = .ok (.invokevirtual 177, 3) := by decide +kernel
theorem dX7_hour_16 : decode cX7_hour 16 = .ok (.iinc 2 1, 3) := by decide +kernel
theorem dX7_hour_19 : decode cX7_hour 19 = .ok (.goto (-17), 3) := by decide +kernel
theorem dX7_hour_22 : decode cX7_hour 22 = .ok (.aload_n 0, 1) := by decide +kernel
theorem dX7_hour_23 : decode cX7_hour 23 = .ok (.aload_n 1, 1) := by decide +kernel
theorem dX7_hour_24 : decode cX7_hour 24 = .ok (.invokevirtual 180, 3) := by decide +kernel
theorem dX7_hour_27 : decode cX7_hour 27 = .ok (.iconst 0, 1) := by decide +kernel
theorem dX7_hour_28 : decode cX7_hour 28 = .ok (.istore_n 2, 1) := by decide +kernel
theorem dX7_hour_29 : decode cX7_hour 29 = .ok (.iload_n 2, 1) := by decide +kernel
theorem dX7_hour_30 : decode cX7_hour 30 = .ok (.aload_n 0, 1) := by decide +kernel
theorem dX7_hour_31 : decode cX7_hour 31 = .ok (.getfield 56, 3) := by decide +kernel
theorem dX7_hour_34 : decode cX7_hour 34 = .ok (.if_icmp .ge 50, 3) := by decide +kernel
theorem dX7_hour_37 : decode cX7_hour 37 = .ok (.aload_n 1, 1) := by decide +kernel
theorem dX7_hour_38 : decode cX7_hour 38 = .ok (.getfield 98, 3) := by decide +kernel
theorem dX7_hour_41 : decode cX7_hour 41 = .ok (.bipush 10, 2) := by decide +kernel
theorem dX7_hour_43 : decode cX7_hour 43 = .ok (.iload_n 2, 1) := by decide +kernel
theorem dX7_hour_44 : decode cX7_hour 44 = .ok (.imul, 1) := by decide +kernel
theorem dX7_hour_45 : decode cX7_hour 45 = .ok (.bipush 6, 2) := by decide +kernel
theorem dX7_hour_47 : decode cX7_hour 47 = .ok (.iadd, 1) := by decide +kernel
theorem dX7_hour_48 : decode cX7_hour 48 = .ok (.aload_n 0, 1) := by decide +kernel
theorem dX7_hour_49 : decode cX7_hour 49 = .ok (.getfield 25, 3) := by decide +kernel
theorem dX7_hour_52 : decode cX7_hour 52 = .ok (.iload_n 2, 1) := by decide +kernel
theorem dX7_hour_53 : decode cX7_hour 53 = .ok (.iaload, 1) := by decide +kernel
theorem dX7_hour_54 : decode cX7_hour 54 = .ok (.iastore, 1) := by decide +kernel
theorem dX7_hour_55 : decode cX7_hour 55 = .ok (.aload_n 0, 1) := by decide +kernel
theorem dX7_hour_56 : decode cX7_hour 56 = .ok (.getfield 32, 3) := by decide +kernel
theorem dX7_hour_59 : decode cX7_hour 59 = .ok (.iload_n 2, 1) := by decide +kernel
theorem dX7_hour_60 : decode cX7_hour 60 = .ok (.baload, 1) := by decide +kernel
theorem dX7_hour_61 : decode cX7_hour 61 = .ok (.ifCond .eq 17, 3) := by decide +kernel
theorem dX7_hour_64 : decode cX7_hour 64 = .ok (.aload_n 1, 1) := by decide +kernel
theorem dX7_hour_65 : decode cX7_hour 65 = .ok (.iload_n 2, 1) := by decide +kernel
theorem dX7_hour_66 : decode cX7_hour 66 = .ok (.invokevirtual 113, 3) := by decide +kernel
theorem dX7_hour_69 : decode cX7_hour 69 = .ok (.ifCond .ne 9, 3) := by decide +kernel
theorem dX7_hour_72 : decode cX7_hour 72 = .ok (.aload_n 0, 1) := by decide +kernel
theorem dX7_hour_73 : decode cX7_hour 73 = .ok (.aload_n 1, 1) := by decide +kernel
theorem dX7_hour_74 : decode cX7_hour 74 = .ok (.iload_n 2, 1) := by decide +kernel
theorem dX7_hour_75 : decode cX7_hour 75 = .ok (.invokevirtual 184, 3) := by decide +kernel
theorem dX7_hour_78 : decode cX7_hour 78 = .ok (.iinc 2 1, 3) := by decide +kernel
theorem dX7_hour_81 : decode cX7_hour 81 = .ok (.goto (-52), 3) := by decide +kernel
theorem dX7_hour_84 : decode cX7_hour 84 = .ok (.aload_n 0, 1) := by decide +kernel
theorem dX7_hour_85 : decode cX7_hour 85 = .ok (.aload_n 1, 1) := by decide +kernel
theorem dX7_hour_86 : decode cX7_hour 86 = .ok (.invokevirtual 187, 3) := by decide +kernel
theorem dX7_hour_89 : decode cX7_hour 89 = .ok (.iconst 0, 1) := by decide +kernel
theorem dX7_hour_90 : decode cX7_hour 90 = .ok (.istore_n 2, 1) := by decide +kernel
theorem dX7_hour_91 : decode cX7_hour 91 = .ok (.iconst 0, 1) := by decide +kernel
theorem dX7_hour_92 : decode cX7_hour 92 = .ok (.istore_n 3, 1) := by decide +kernel
theorem dX7_hour_93 : decode cX7_hour 93 = .ok (.iload_n 3, 1) := by decide +kernel
theorem dX7_hour_94 : decode cX7_hour 94 = .ok (.sipush 144, 3) := by decide +kernel
theorem dX7_hour_97 : decode cX7_hour 97 = .ok (.if_icmp .ge 34, 3) := by decide +kernel
theorem dX7_hour_100 : decode cX7_hour 100 = .ok (.aload_n 1, 1) := by decide +kernel
theorem dX7_hour_101 : decode cX7_hour 101 = .ok (.iload_n 3, 1) := by decide +kernel
theorem dX7_hour_102 : decode cX7_hour 102 = .ok (.invokevirtual 87, 3) := by decide +kernel
theorem dX7_hour_105 : decode cX7_hour 105 = .ok (.ifCond .eq 20, 3) := by decide +kernel
theorem dX7_hour_108 : decode cX7_hour 108 = .ok (.aload_n 1, 1) := by decide +kernel
theorem dX7_hour_109 : decode cX7_hour 109 = .ok (.iload_n 3, 1) := by decide +kernel
theorem dX7_hour_110 : decode cX7_hour 110 = .ok (.invokestatic 190, 3) := by decide +kernel
theorem dX7_hour_113 : decode cX7_hour 113 = .ok (.ifCond .eq 12, 3) := by decide +kernel
theorem dX7_hour_116 : decode cX7_hour 116 = .ok (.iload_n 2, 1) := by decide +kernel
theorem dX7_hour_117 : decode cX7_hour 117 = .ok (.aload_n 0, 1) := by decide +kernel
theorem dX7_hour_118 : decode cX7_hour 118 = .ok (.aload_n 1, 1) := by decide +kernel
theorem dX7_hour_119 : decode cX7_hour 119 = .ok (.iload_n 3, 1) := by decide +kernel
theorem dX7_hour_120 : decode cX7_hour 120 = .ok (.invokevirtual 193, 3) := by decide +kernel
theorem dX7_hour_123 : decode cX7_hour 123 = .ok (.iadd, 1) := by decide +kernel
theorem dX7_hour_124 : decode cX7_hour 124 = .ok (.istore_n 2, 1) := by decide +kernel
theorem dX7_hour_125 : decode cX7_hour 125 = .ok (.iinc 3 1, 3) := by decide +kernel
theorem dX7_hour_128 : decode cX7_hour 128 = .ok (.goto (-35), 3) := by decide +kernel
theorem dX7_hour_131 : decode cX7_hour 131 = .ok (.aload_n 1, 1) := by decide +kernel
theorem dX7_hour_132 : decode cX7_hour 132 = .ok (.dup, 1) := by decide +kernel
theorem dX7_hour_133 : decode cX7_hour 133 = .ok (.getfield 171, 3) := by decide +kernel
theorem dX7_hour_136 : decode cX7_hour 136 = .ok (.iconst 1, 1) := by decide +kernel
theorem dX7_hour_137 : decode cX7_hour 137 = .ok (.iadd, 1) := by decide +kernel
theorem dX7_hour_138 : decode cX7_hour 138 = .ok (.putfield 171, 3) := by decide +kernel
theorem dX7_hour_141 : decode cX7_hour 141 = .ok (.iload_n 2, 1) := by decide +kernel
theorem dX7_hour_142 : decode cX7_hour 142 = .ok (.ireturn, 1) := by decide +kernel
set_option maxRecDepth 100000 in
theorem ggX7_hours_X7_hour : GoodIn wsX7_hours wsX7_hour := goodIn_r _ [5, 6, 7, 8, 9, 10, 11, 4, 12, 13, 14, 15, 16, 17, 18, 19, 20, 21, 22, 23, 24, 25, 26, 27, 28, 29, 30, 31, 32, 33, 34, 35, 36, 37, 38, 39, 40, 41, 42, 43, 44, 45, 46, 47, 48, 49, 50, 51, 52, 53, 54, 55, 56, 57, 58, 59, 60, 61, 62, 63, 64, 65, 66, 67, 68, 69, 70, 71, 72, 73, 74, 75, 76, 77, 78, 79, 80, 81, 82, 83, 84, 85, 86, 87, 88, 89, 90, 91, 92, 93, 94, 95, 96, 97, 98, 99, 100, 101, 102, 103, 104, 105, 106, 107, 108, 109, 110, 111, 112, 113, 114, 115, 116, 117, 118, 119, 120, 121, 122, 123, 124, 125, 126, 127, 128] rfl (by decide +kernel)
set_option maxRecDepth 100000 in
theorem gX7_hours_X7_hour : GoodIn wsX7_hours (wsV RX7 197 RX7 yX7_hour wsX7_hour) := goodIn_app (goodIn_of _ (by decide +kernel)) ggX7_hours_X7_hour
theorem dX7_hours_0 : decode cX7_hours 0 = .ok (.iconst 0, 1) := by decide +kernel
theorem dX7_hours_1 : decode cX7_hours 1 = .ok (.istore_n 3, 1) := by decide +kernel
theorem dX7_hours_2 : decode cX7_hours 2 = .ok (.iconst 0, 1) := by decide +kernel
theorem dX7_hours_3 : decode cX7_hours 3 = .ok (.istore 4, 2) := by decide +kernel
theorem dX7_hours_5 : decode cX7_hours 5 = .ok (.iload 4, 2) := by decide +kernel
theorem dX7_hours_7 : decode cX7_hours 7 = .ok (.iload_n 2, 1) := by decide +kernel
theorem dX7_hours_8 : decode cX7_hours 8 = .ok (.if_icmp .ge 17, 3) := by decide +kernel
theorem dX7_hours_11 : decode cX7_hours 11 = .ok (.iload_n 3, 1) := by decide +kernel
theorem dX7_hours_12 : decode cX7_hours 12 = .ok (.aload_n 0, 1) := by decide +kernel
theorem dX7_hours_13 : decode cX7_hours 13 = .ok (.aload_n 1, 1) := by decide +kernel
theorem dX7_hours_14 : decode cX7_hours 14 = .ok (.invokevirtual 197, 3) := by decide +kernel
theorem dX7_hours_17 : decode cX7_hours 17 = .ok (.iadd, 1) := by decide +kernel
theorem dX7_hours_18 : decode cX7_hours 18 = .ok (.istore_n 3, 1) := by decide +kernel
theorem dX7_hours_19 : decode cX7_hours 19 = .ok (.iinc 4 1, 3) := by decide +kernel
theorem dX7_hours_22 : decode cX7_hours 22 = .ok (.goto (-17), 3) := by decide +kernel
theorem dX7_hours_25 : decode cX7_hours 25 = .ok (.iload_n 3, 1) := by decide +kernel
theorem dX7_hours_26 : decode cX7_hours 26 = .ok (.ireturn, 1) := by decide +kernel
