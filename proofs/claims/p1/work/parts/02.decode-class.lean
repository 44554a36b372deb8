theorem dX0_init_0 : decode cX0_init 0 = .ok (.aload_n 0, 1) := by decide +kernel
theorem dX0_init_1 : decode cX0_init 1 = .ok (.invokespecial 3, 3) := by decide +kernel
theorem dX0_init_4 : decode cX0_init 4 = .ok (.aload_n 0, 1) := by decide +kernel
theorem dX0_init_5 : decode cX0_init 5 = .ok (.sipush 144, 3) := by decide +kernel
theorem dX0_init_8 : decode cX0_init 8 = .ok (.newarray .int, 2) := by decide +kernel
theorem dX0_init_10 : decode cX0_init 10 = .ok (.putfield 9, 3) := by decide +kernel
theorem dX0_init_13 : decode cX0_init 13 = .ok (.aload_n 0, 1) := by decide +kernel
theorem dX0_init_14 : decode cX0_init 14 = .ok (.sipush 144, 3) := by decide +kernel
theorem dX0_init_17 : decode cX0_init 17 = .ok (.newarray .int, 2) := by decide +kernel
theorem dX0_init_19 : decode cX0_init 19 = .ok (.putfield 15, 3) := by decide +kernel
theorem dX0_init_22 : decode cX0_init 22 = .ok (.aload_n 0, 1) := by decide +kernel
theorem dX0_init_23 : decode cX0_init 23 = .ok (.sipush 144, 3) := by decide +kernel
theorem dX0_init_26 : decode cX0_init 26 = .ok (.newarray .int, 2) := by decide +kernel
theorem dX0_init_28 : decode cX0_init 28 = .ok (.putfield 18, 3) := by decide +kernel
theorem dX0_init_31 : decode cX0_init 31 = .ok (.aload_n 0, 1) := by decide +kernel
theorem dX0_init_32 : decode cX0_init 32 = .ok (.sipush 144, 3) := by decide +kernel
theorem dX0_init_35 : decode cX0_init 35 = .ok (.newarray .int, 2) := by decide +kernel
theorem dX0_init_37 : decode cX0_init 37 = .ok (.putfield 21, 3) := by decide +kernel
theorem dX0_init_40 : decode cX0_init 40 = .ok (.aload_n 0, 1) := by decide +kernel
theorem dX0_init_41 : decode cX0_init 41 = .ok (.sipush 144, 3) := by decide +kernel
theorem dX0_init_44 : decode cX0_init 44 = .ok (.newarray .int, 2) := by decide +kernel
theorem dX0_init_46 : decode cX0_init 46 = .ok (.putfield 24, 3) := by decide +kernel
theorem dX0_init_49 : decode cX0_init 49 = .ok (.aload_n 0, 1) := by decide +kernel
theorem dX0_init_50 : decode cX0_init 50 = .ok (.sipush 144, 3) := by decide +kernel
theorem dX0_init_53 : decode cX0_init 53 = .ok (.newarray .int, 2) := by decide +kernel
theorem dX0_init_55 : decode cX0_init 55 = .ok (.putfield 27, 3) := by decide +kernel
theorem dX0_init_58 : decode cX0_init 58 = .ok (.aload_n 0, 1) := by decide +kernel
theorem dX0_init_59 : decode cX0_init 59 = .ok (.sipush 144, 3) := by decide +kernel
theorem dX0_init_62 : decode cX0_init 62 = .ok (.newarray .int, 2) := by decide +kernel
theorem dX0_init_64 : decode cX0_init 64 = .ok (.putfield 30, 3) := by decide +kernel
theorem dX0_init_67 : decode cX0_init 67 = .ok (.aload_n 0, 1) := by decide +kernel
theorem dX0_init_68 : decode cX0_init 68 = .ok (.sipush 144, 3) := by decide +kernel
theorem dX0_init_71 : decode cX0_init 71 = .ok (.newarray .int, 2) := by decide +kernel
theorem dX0_init_73 : decode cX0_init 73 = .ok (.putfield 33, 3) := by decide +kernel
theorem dX0_init_76 : decode cX0_init 76 = .ok (.aload_n 0, 1) := by decide +kernel
theorem dX0_init_77 : decode cX0_init 77 = .ok (.sipush 144, 3) := by decide +kernel
theorem dX0_init_80 : decode cX0_init 80 = .ok (.newarray .int, 2) := by decide +kernel
theorem dX0_init_82 : decode cX0_init 82 = .ok (.putfield 36, 3) := by decide +kernel
theorem dX0_init_85 : decode cX0_init 85 = .ok (.aload_n 0, 1) := by decide +kernel
theorem dX0_init_86 : decode cX0_init 86 = .ok (.sipush 144, 3) := by decide +kernel
theorem dX0_init_89 : decode cX0_init 89 = .ok (.newarray .int, 2) := by decide +kernel
theorem dX0_init_91 : decode cX0_init 91 = .ok (.putfield 39, 3) := by decide +kernel
theorem dX0_init_94 : decode cX0_init 94 = .ok (.aload_n 0, 1) := by decide +kernel
theorem dX0_init_95 : decode cX0_init 95 = .ok (.iconst 0, 1) := by decide +kernel
theorem dX0_init_96 : decode cX0_init 96 = .ok (.putfield 42, 3) := by decide +kernel
theorem dX0_init_99 : decode cX0_init 99 = .ok (.aload_n 0, 1) := by decide +kernel
theorem dX0_init_100 : decode cX0_init 100 = .ok (.iconst 0, 1) := by decide +kernel
theorem dX0_init_101 : decode cX0_init 101 = .ok (.putfield 46, 3) := by decide +kernel
theorem dX0_init_104 : decode cX0_init 104 = .ok (.aload_n 0, 1) := by decide +kernel
theorem dX0_init_105 : decode cX0_init 105 = .ok (.getfield 9, 3) := by decide +kernel
theorem dX0_init_108 : decode cX0_init 108 = .ok (.iconst 3, 1) := by decide +kernel
theorem dX0_init_109 : decode cX0_init 109 = .ok (.invokestatic 49, 3) := by decide +kernel
theorem dX0_init_112 : decode cX0_init 112 = .ok (.aload_n 0, 1) := by decide +kernel
theorem dX0_init_113 : decode cX0_init 113 = .ok (.getfield 15, 3) := by decide +kernel
theorem dX0_init_116 : decode cX0_init 116 = .ok (.iconst (-1), 1) := by decide +kernel
theorem dX0_init_117 : decode cX0_init 117 = .ok (.invokestatic 49, 3) := by decide +kernel
theorem dX0_init_120 : decode cX0_init 120 = .ok (.return_, 1) := by decide +kernel
theorem dX0_copyFrom_0 : decode cX0_copyFrom 0 = .ok (.aload_n 1, 1) := by decide +kernel
theorem dX0_copyFrom_1 : decode cX0_copyFrom 1 = .ok (.getfield 9, 3) := by decide +kernel
theorem dX0_copyFrom_4 : decode cX0_copyFrom 4 = .ok (.iconst 0, 1) := by decide +kernel
theorem dX0_copyFrom_5 : decode cX0_copyFrom 5 = .ok (.aload_n 0, 1) := by decide +kernel
theorem dX0_copyFrom_6 : decode cX0_copyFrom 6 = .ok (.getfield 9, 3) := by decide +kernel
theorem dX0_copyFrom_9 : decode cX0_copyFrom 9 = .ok (.iconst 0, 1) := by decide +kernel
theorem dX0_copyFrom_10 : decode cX0_copyFrom 10 = .ok (.sipush 144, 3) := by decide +kernel
theorem dX0_copyFrom_13 : decode cX0_copyFrom 13 = .ok (.invokestatic 55, 3) := by decide +kernel
theorem dX0_copyFrom_16 : decode cX0_copyFrom 16 = .ok (.aload_n 1, 1) := by decide +kernel
theorem dX0_copyFrom_17 : decode cX0_copyFrom 17 = .ok (.getfield 15, 3) := by decide +kernel
theorem dX0_copyFrom_20 : decode cX0_copyFrom 20 = .ok (.iconst 0, 1) := by decide +kernel
theorem dX0_copyFrom_21 : decode cX0_copyFrom 21 = .ok (.aload_n 0, 1) := by decide +kernel
theorem dX0_copyFrom_22 : decode cX0_copyFrom 22 = .ok (.getfield 15, 3) := by decide +kernel
theorem dX0_copyFrom_25 : decode cX0_copyFrom 25 = .ok (.iconst 0, 1) := by decide +kernel
theorem dX0_copyFrom_26 : decode cX0_copyFrom 26 = .ok (.sipush 144, 3) := by decide +kernel
theorem dX0_copyFrom_29 : decode cX0_copyFrom 29 = .ok (.invokestatic 55, 3) := by decide +kernel
theorem dX0_copyFrom_32 : decode cX0_copyFrom 32 = .ok (.aload_n 1, 1) := by decide +kernel
theorem dX0_copyFrom_33 : decode cX0_copyFrom 33 = .ok (.getfield 18, 3) := by decide +kernel
theorem dX0_copyFrom_36 : decode cX0_copyFrom 36 = .ok (.iconst 0, 1) := by decide +kernel
theorem dX0_copyFrom_37 : decode cX0_copyFrom 37 = .ok (.aload_n 0, 1) := by decide +kernel
theorem dX0_copyFrom_38 : decode cX0_copyFrom 38 = .ok (.getfield 18, 3) := by decide +kernel
theorem dX0_copyFrom_41 : decode cX0_copyFrom 41 = .ok (.iconst 0, 1) := by decide +kernel
theorem dX0_copyFrom_42 : decode cX0_copyFrom 42 = .ok (.sipush 144, 3) := by decide +kernel
theorem dX0_copyFrom_45 : decode cX0_copyFrom 45 = .ok (.invokestatic 55, 3) := by decide +kernel
theorem dX0_copyFrom_48 : decode cX0_copyFrom 48 = .ok (.aload_n 1, 1) := by decide +kernel
theorem dX0_copyFrom_49 : decode cX0_copyFrom 49 = .ok (.getfield 21, 3) := by decide +kernel
theorem dX0_copyFrom_52 : decode cX0_copyFrom 52 = .ok (.iconst 0, 1) := by decide +kernel
theorem dX0_copyFrom_53 : decode cX0_copyFrom 53 = .ok (.aload_n 0, 1) := by decide +kernel
theorem dX0_copyFrom_54 : decode cX0_copyFrom 54 = .ok (.getfield 21, 3) := by decide +kernel
theorem dX0_copyFrom_57 : decode cX0_copyFrom 57 = .ok (.iconst 0, 1) := by decide +kernel
theorem dX0_copyFrom_58 : decode cX0_copyFrom 58 = .ok (.sipush 144, 3) := by decide +kernel
theorem dX0_copyFrom_61 : decode cX0_copyFrom 61 = .ok (.invokestatic 55, 3) := by decide +kernel
theorem dX0_copyFrom_64 : decode cX0_copyFrom 64 = .ok (.aload_n 1, 1) := by decide +kernel
theorem dX0_copyFrom_65 : decode cX0_copyFrom 65 = .ok (.getfield 24, 3) := by decide +kernel
theorem dX0_copyFrom_68 : decode cX0_copyFrom 68 = .ok (.iconst 0, 1) := by decide +kernel
theorem dX0_copyFrom_69 : decode cX0_copyFrom 69 = .ok (.aload_n 0, 1) := by decide +kernel
theorem dX0_copyFrom_70 : decode cX0_copyFrom 70 = .ok (.getfield 24, 3) := by decide +kernel
theorem dX0_copyFrom_73 : decode cX0_copyFrom 73 = .ok (.iconst 0, 1) := by decide +kernel
theorem dX0_copyFrom_74 : decode cX0_copyFrom 74 = .ok (.sipush 144, 3) := by decide +kernel
theorem dX0_copyFrom_77 : decode cX0_copyFrom 77 = .ok (.invokestatic 55, 3) := by decide +kernel
theorem dX0_copyFrom_80 : decode cX0_copyFrom 80 = .ok (.aload_n 1, 1) := by decide +kernel
theorem dX0_copyFrom_81 : decode cX0_copyFrom 81 = .ok (.getfield 27, 3) := by decide +kernel
theorem dX0_copyFrom_84 : decode cX0_copyFrom 84 = .ok (.iconst 0, 1) := by decide +kernel
theorem dX0_copyFrom_85 : decode cX0_copyFrom 85 = .ok (.aload_n 0, 1) := by decide +kernel
theorem dX0_copyFrom_86 : decode cX0_copyFrom 86 = .ok (.getfield 27, 3) := by decide +kernel
theorem dX0_copyFrom_89 : decode cX0_copyFrom 89 = .ok (.iconst 0, 1) := by decide +kernel
theorem dX0_copyFrom_90 : decode cX0_copyFrom 90 = .ok (.sipush 144, 3) := by decide +kernel
theorem dX0_copyFrom_93 : decode cX0_copyFrom 93 = .ok (.invokestatic 55, 3) := by decide +kernel
theorem dX0_copyFrom_96 : decode cX0_copyFrom 96 = .ok (.aload_n 1, 1) := by decide +kernel
theorem dX0_copyFrom_97 : decode cX0_copyFrom 97 = .ok (.getfield 30, 3) := by decide +kernel
theorem dX0_copyFrom_100 : decode cX0_copyFrom 100 = .ok (.iconst 0, 1) := by decide +kernel
theorem dX0_copyFrom_101 : decode cX0_copyFrom 101 = .ok (.aload_n 0, 1) := by decide +kernel
theorem dX0_copyFrom_102 : decode cX0_copyFrom 102 = .ok (.getfield 30, 3) := by decide +kernel
theorem dX0_copyFrom_105 : decode cX0_copyFrom 105 = .ok (.iconst 0, 1) := by decide +kernel
theorem dX0_copyFrom_106 : decode cX0_copyFrom 106 = .ok (.sipush 144, 3) := by decide +kernel
theorem dX0_copyFrom_109 : decode cX0_copyFrom 109 = .ok (.invokestatic 55, 3) := by decide +kernel
theorem dX0_copyFrom_112 : decode cX0_copyFrom 112 = .ok (.aload_n 1, 1) := by decide +kernel
theorem dX0_copyFrom_113 : decode cX0_copyFrom 113 = .ok (.getfield 33, 3) := by decide +kernel
theorem dX0_copyFrom_116 : decode cX0_copyFrom 116 = .ok (.iconst 0, 1) := by decide +kernel
theorem dX0_copyFrom_117 : decode cX0_copyFrom 117 = .ok (.aload_n 0, 1) := by decide +kernel
theorem dX0_copyFrom_118 : decode cX0_copyFrom 118 = .ok (.getfield 33, 3) := by decide +kernel
theorem dX0_copyFrom_121 : decode cX0_copyFrom 121 = .ok (.iconst 0, 1) := by decide +kernel
theorem dX0_copyFrom_122 : decode cX0_copyFrom 122 = .ok (.sipush 144, 3) := by decide +kernel
theorem dX0_copyFrom_125 : decode cX0_copyFrom 125 = .ok (.invokestatic 55, 3) := by decide +kernel
theorem dX0_copyFrom_128 : decode cX0_copyFrom 128 = .ok (.aload_n 0, 1) := by decide +kernel
theorem dX0_copyFrom_129 : decode cX0_copyFrom 129 = .ok (.aload_n 1, 1) := by decide +kernel
theorem dX0_copyFrom_130 : decode cX0_copyFrom 130 = .ok (.getfield 42, 3) := by decide +kernel
theorem dX0_copyFrom_133 : decode cX0_copyFrom 133 = .ok (.putfield 42, 3) := by decide +kernel
theorem dX0_copyFrom_136 : decode cX0_copyFrom 136 = .ok (.aload_n 0, 1) := by decide +kernel
theorem dX0_copyFrom_137 : decode cX0_copyFrom 137 = .ok (.aload_n 1, 1) := by decide +kernel
theorem dX0_copyFrom_138 : decode cX0_copyFrom 138 = .ok (.getfield 46, 3) := by decide +kernel
theorem dX0_copyFrom_141 : decode cX0_copyFrom 141 = .ok (.putfield 46, 3) := by decide +kernel
theorem dX0_copyFrom_144 : decode cX0_copyFrom 144 = .ok (.return_, 1) := by decide +kernel
set_option maxRecDepth 20000 in
theorem ggX0_readMap_X0_readCell : GoodIn wsX0_readMap wsX0_readCell := goodIn_r _ [5, 6, 7, 8, 9, 10, 4, 11, 12, 13, 14, 15, 16, 17, 18, 19, 20, 21, 22, 23, 24, 25, 26, 27, 28, 29, 30, 31, 32, 33, 34, 35, 36, 37] (by decide +kernel) (by decide +kernel)
set_option maxRecDepth 20000 in
theorem gX0_readMap_X0_readCell : GoodIn wsX0_readMap (wsV RX0 61 RX0 yX0_readCell wsX0_readCell) := goodIn_app (goodIn_of _ (by decide +kernel)) ggX0_readMap_X0_readCell
theorem dX0_readMap_0 : decode cX0_readMap 0 = .ok (.aload_n 1, 1) := by decide +kernel
theorem dX0_readMap_1 : decode cX0_readMap 1 = .ok (.arraylength, 1) := by decide +kernel
theorem dX0_readMap_2 : decode cX0_readMap 2 = .ok (.sipush 156, 3) := by decide +kernel
theorem dX0_readMap_5 : decode cX0_readMap 5 = .ok (.if_icmp .ge 4, 3) := by decide +kernel
theorem dX0_readMap_8 : decode cX0_readMap 8 = .ok (.return_, 1) := by decide +kernel
theorem dX0_readMap_9 : decode cX0_readMap 9 = .ok (.iconst 0, 1) := by decide +kernel
theorem dX0_readMap_10 : decode cX0_readMap 10 = .ok (.istore_n 2, 1) := by decide +kernel
theorem dX0_readMap_11 : decode cX0_readMap 11 = .ok (.iload_n 2, 1) := by decide +kernel
theorem dX0_readMap_12 : decode cX0_readMap 12 = .ok (.sipush 144, 3) := by decide +kernel
theorem dX0_readMap_15 : decode cX0_readMap 15 = .ok (.if_icmp .ge 28, 3) := by decide +kernel
theorem dX0_readMap_18 : decode cX0_readMap 18 = .ok (.aload_n 0, 1) := by decide +kernel
theorem dX0_readMap_19 : decode cX0_readMap 19 = .ok (.iload_n 2, 1) := by decide +kernel
theorem dX0_readMap_20 : decode cX0_readMap 20 = .ok (.aload_n 1, 1) := by decide +kernel
theorem dX0_readMap_21 : decode cX0_readMap 21 = .ok (.bipush 13, 2) := by decide +kernel
theorem dX0_readMap_23 : decode cX0_readMap 23 = .ok (.iload_n 2, 1) := by decide +kernel
theorem dX0_readMap_24 : decode cX0_readMap 24 = .ok (.bipush 12, 2) := by decide +kernel
theorem dX0_readMap_26 : decode cX0_readMap 26 = .ok (.idiv, 1) := by decide +kernel
theorem dX0_readMap_27 : decode cX0_readMap 27 = .ok (.imul, 1) := by decide +kernel
theorem dX0_readMap_28 : decode cX0_readMap 28 = .ok (.iload_n 2, 1) := by decide +kernel
theorem dX0_readMap_29 : decode cX0_readMap 29 = .ok (.bipush 12, 2) := by decide +kernel
theorem dX0_readMap_31 : decode cX0_readMap 31 = .ok (.irem, 1) := by decide +kernel
theorem dX0_readMap_32 : decode cX0_readMap 32 = .ok (.iadd, 1) := by decide +kernel
theorem dX0_readMap_33 : decode cX0_readMap 33 = .ok (.iaload, 1) := by decide +kernel
theorem dX0_readMap_34 : decode cX0_readMap 34 = .ok (.invokevirtual 61, 3) := by decide +kernel
theorem dX0_readMap_37 : decode cX0_readMap 37 = .ok (.iinc 2 1, 3) := by decide +kernel
theorem dX0_readMap_40 : decode cX0_readMap 40 = .ok (.goto (-29), 3) := by decide +kernel
theorem dX0_readMap_43 : decode cX0_readMap 43 = .ok (.return_, 1) := by decide +kernel
set_option maxRecDepth 20000 in
theorem ggX0_readCell_X0_makeEarth : GoodIn wsX0_readCell wsX0_makeEarth := goodIn_r _ [7, 8, 2, 9, 10, 11, 6, 12, 13, 14, 15, 16, 17, 22, 23, 24, 25, 26, 27, 28, 29, 30, 31, 32, 33] (by decide +kernel) (by decide +kernel)
set_option maxRecDepth 20000 in
theorem gX0_readCell_X0_makeEarth : GoodIn wsX0_readCell (wsV RX0 65 RX0 yX0_makeEarth wsX0_makeEarth) := goodIn_app (goodIn_of _ (by decide +kernel)) ggX0_readCell_X0_makeEarth
set_option maxRecDepth 20000 in
theorem ggX0_readCell_X0_openTunnel : GoodIn wsX0_readCell wsX0_openTunnel := goodIn_r _ [21, 8, 9, 10, 11, 6, 12, 13, 14, 15, 16, 17, 22, 23, 24, 25, 26, 27, 28, 29, 30, 31, 32, 33] (by decide +kernel) (by decide +kernel)
set_option maxRecDepth 20000 in
theorem gX0_readCell_X0_openTunnel : GoodIn wsX0_readCell (wsV RX0 68 RX0 yX0_openTunnel wsX0_openTunnel) := goodIn_app (goodIn_of _ (by decide +kernel)) ggX0_readCell_X0_openTunnel
theorem dX0_readCell_0 : decode cX0_readCell 0 = .ok (.aload_n 0, 1) := by decide +kernel
theorem dX0_readCell_1 : decode cX0_readCell 1 = .ok (.getfield 15, 3) := by decide +kernel
theorem dX0_readCell_4 : decode cX0_readCell 4 = .ok (.iload_n 1, 1) := by decide +kernel
theorem dX0_readCell_5 : decode cX0_readCell 5 = .ok (.iconst (-1), 1) := by decide +kernel
theorem dX0_readCell_6 : decode cX0_readCell 6 = .ok (.iastore, 1) := by decide +kernel
theorem dX0_readCell_7 : decode cX0_readCell 7 = .ok (.aload_n 0, 1) := by decide +kernel
theorem dX0_readCell_8 : decode cX0_readCell 8 = .ok (.iload_n 1, 1) := by decide +kernel
theorem dX0_readCell_9 : decode cX0_readCell 9 = .ok (.iconst 3, 1) := by decide +kernel
theorem dX0_readCell_10 : decode cX0_readCell 10 = .ok (.invokevirtual 65, 3) := by decide +kernel
theorem dX0_readCell_13 : decode cX0_readCell 13 = .ok (.iload_n 2, 1) := by decide +kernel
theorem dX0_readCell_14 : decode cX0_readCell 14 = .ok (.bipush 46, 2) := by decide +kernel
theorem dX0_readCell_16 : decode cX0_readCell 16 = .ok (.if_icmp .ne 11, 3) := by decide +kernel
theorem dX0_readCell_19 : decode cX0_readCell 19 = .ok (.aload_n 0, 1) := by decide +kernel
theorem dX0_readCell_20 : decode cX0_readCell 20 = .ok (.iload_n 1, 1) := by decide +kernel
theorem dX0_readCell_21 : decode cX0_readCell 21 = .ok (.invokevirtual 68, 3) := by decide +kernel
theorem dX0_readCell_24 : decode cX0_readCell 24 = .ok (.goto 58, 3) := by decide +kernel
theorem dX0_readCell_27 : decode cX0_readCell 27 = .ok (.iload_n 2, 1) := by decide +kernel
theorem dX0_readCell_28 : decode cX0_readCell 28 = .ok (.bipush 35, 2) := by decide +kernel
theorem dX0_readCell_30 : decode cX0_readCell 30 = .ok (.if_icmp .ne 13, 3) := by decide +kernel
theorem dX0_readCell_33 : decode cX0_readCell 33 = .ok (.aload_n 0, 1) := by decide +kernel
theorem dX0_readCell_34 : decode cX0_readCell 34 = .ok (.getfield 9, 3) := by decide +kernel
theorem dX0_readCell_37 : decode cX0_readCell 37 = .ok (.iload_n 1, 1) := by decide +kernel
theorem dX0_readCell_38 : decode cX0_readCell 38 = .ok (.iconst 0, 1) := by decide +kernel
theorem dX0_readCell_39 : decode cX0_readCell 39 = .ok (.iastore, 1) := by decide +kernel
theorem dX0_readCell_40 : decode cX0_readCell 40 = .ok (.goto 42, 3) := by decide +kernel
theorem dX0_readCell_43 : decode cX0_readCell 43 = .ok (.iload_n 2, 1) := by decide +kernel
theorem dX0_readCell_44 : decode cX0_readCell 44 = .ok (.bipush 97, 2) := by decide +kernel
theorem dX0_readCell_46 : decode cX0_readCell 46 = .ok (.if_icmp .lt 26, 3) := by decide +kernel
theorem dX0_readCell_49 : decode cX0_readCell 49 = .ok (.aload_n 0, 1) := by decide +kernel
theorem dX0_readCell_50 : decode cX0_readCell 50 = .ok (.getfield 9, 3) := by decide +kernel
theorem dX0_readCell_53 : decode cX0_readCell 53 = .ok (.iload_n 1, 1) := by decide +kernel
theorem dX0_readCell_54 : decode cX0_readCell 54 = .ok (.iload_n 2, 1) := by decide +kernel
theorem dX0_readCell_55 : decode cX0_readCell 55 = .ok (.bipush 97, 2) := by decide +kernel
theorem dX0_readCell_57 : decode cX0_readCell 57 = .ok (.isub, 1) := by decide +kernel
theorem dX0_readCell_58 : decode cX0_readCell 58 = .ok (.iconst 1, 1) := by decide +kernel
theorem dX0_readCell_59 : decode cX0_readCell 59 = .ok (.iadd, 1) := by decide +kernel
theorem dX0_readCell_60 : decode cX0_readCell 60 = .ok (.iastore, 1) := by decide +kernel
theorem dX0_readCell_61 : decode cX0_readCell 61 = .ok (.aload_n 0, 1) := by decide +kernel
theorem dX0_readCell_62 : decode cX0_readCell 62 = .ok (.getfield 15, 3) := by decide +kernel
theorem dX0_readCell_65 : decode cX0_readCell 65 = .ok (.iload_n 1, 1) := by decide +kernel
theorem dX0_readCell_66 : decode cX0_readCell 66 = .ok (.bipush 20, 2) := by decide +kernel
theorem dX0_readCell_68 : decode cX0_readCell 68 = .ok (.iastore, 1) := by decide +kernel
theorem dX0_readCell_69 : decode cX0_readCell 69 = .ok (.goto 13, 3) := by decide +kernel
theorem dX0_readCell_72 : decode cX0_readCell 72 = .ok (.aload_n 0, 1) := by decide +kernel
theorem dX0_readCell_73 : decode cX0_readCell 73 = .ok (.getfield 9, 3) := by decide +kernel
theorem dX0_readCell_76 : decode cX0_readCell 76 = .ok (.iload_n 1, 1) := by decide +kernel
theorem dX0_readCell_77 : decode cX0_readCell 77 = .ok (.iload_n 2, 1) := by decide +kernel
theorem dX0_readCell_78 : decode cX0_readCell 78 = .ok (.bipush 48, 2) := by decide +kernel
theorem dX0_readCell_80 : decode cX0_readCell 80 = .ok (.isub, 1) := by decide +kernel
theorem dX0_readCell_81 : decode cX0_readCell 81 = .ok (.iastore, 1) := by decide +kernel
theorem dX0_readCell_82 : decode cX0_readCell 82 = .ok (.return_, 1) := by decide +kernel
theorem dX0_isRock_0 : decode cX0_isRock 0 = .ok (.aload_n 0, 1) := by decide +kernel
theorem dX0_isRock_1 : decode cX0_isRock 1 = .ok (.getfield 9, 3) := by decide +kernel
theorem dX0_isRock_4 : decode cX0_isRock 4 = .ok (.iload_n 1, 1) := by decide +kernel
theorem dX0_isRock_5 : decode cX0_isRock 5 = .ok (.iaload, 1) := by decide +kernel
theorem dX0_isRock_6 : decode cX0_isRock 6 = .ok (.ifCond .ne 7, 3) := by decide +kernel
theorem dX0_isRock_9 : decode cX0_isRock 9 = .ok (.iconst 1, 1) := by decide +kernel
theorem dX0_isRock_10 : decode cX0_isRock 10 = .ok (.goto 4, 3) := by decide +kernel
theorem dX0_isRock_13 : decode cX0_isRock 13 = .ok (.iconst 0, 1) := by decide +kernel
theorem dX0_isRock_14 : decode cX0_isRock 14 = .ok (.ireturn, 1) := by decide +kernel
theorem dX0_isTunnel_0 : decode cX0_isTunnel 0 = .ok (.aload_n 0, 1) := by decide +kernel
theorem dX0_isTunnel_1 : decode cX0_isTunnel 1 = .ok (.getfield 18, 3) := by decide +kernel
theorem dX0_isTunnel_4 : decode cX0_isTunnel 4 = .ok (.iload_n 1, 1) := by decide +kernel
theorem dX0_isTunnel_5 : decode cX0_isTunnel 5 = .ok (.iaload, 1) := by decide +kernel
theorem dX0_isTunnel_6 : decode cX0_isTunnel 6 = .ok (.iconst 1, 1) := by decide +kernel
theorem dX0_isTunnel_7 : decode cX0_isTunnel 7 = .ok (.if_icmp .ne 7, 3) := by decide +kernel
theorem dX0_isTunnel_10 : decode cX0_isTunnel 10 = .ok (.iconst 1, 1) := by decide +kernel
theorem dX0_isTunnel_11 : decode cX0_isTunnel 11 = .ok (.goto 4, 3) := by decide +kernel
theorem dX0_isTunnel_14 : decode cX0_isTunnel 14 = .ok (.iconst 0, 1) := by decide +kernel
theorem dX0_isTunnel_15 : decode cX0_isTunnel 15 = .ok (.ireturn, 1) := by decide +kernel
set_option maxRecDepth 20000 in
theorem ggX0_openTunnel_X0_empty : GoodIn wsX0_openTunnel wsX0_empty := goodIn_r _ [6, 7, 8, 9, 10, 11, 12, 13, 14, 15, 16, 17, 18, 19, 20, 21, 22, 23] (by decide +kernel) (by decide +kernel)
set_option maxRecDepth 20000 in
theorem gX0_openTunnel_X0_empty : GoodIn wsX0_openTunnel (wsV RX0 72 RX0 yX0_empty wsX0_empty) := goodIn_app (goodIn_of _ (by decide +kernel)) ggX0_openTunnel_X0_empty
theorem dX0_openTunnel_0 : decode cX0_openTunnel 0 = .ok (.aload_n 0, 1) := by decide +kernel
theorem dX0_openTunnel_1 : decode cX0_openTunnel 1 = .ok (.iload_n 1, 1) := by decide +kernel
theorem dX0_openTunnel_2 : decode cX0_openTunnel 2 = .ok (.invokevirtual 72, 3) := by decide +kernel
theorem dX0_openTunnel_5 : decode cX0_openTunnel 5 = .ok (.aload_n 0, 1) := by decide +kernel
theorem dX0_openTunnel_6 : decode cX0_openTunnel 6 = .ok (.getfield 18, 3) := by decide +kernel
theorem dX0_openTunnel_9 : decode cX0_openTunnel 9 = .ok (.iload_n 1, 1) := by decide +kernel
theorem dX0_openTunnel_10 : decode cX0_openTunnel 10 = .ok (.iconst 1, 1) := by decide +kernel
theorem dX0_openTunnel_11 : decode cX0_openTunnel 11 = .ok (.iastore, 1) := by decide +kernel
theorem dX0_openTunnel_12 : decode cX0_openTunnel 12 = .ok (.return_, 1) := by decide +kernel
set_option maxRecDepth 20000 in
theorem ggX0_makeEarth_X0_empty : GoodIn wsX0_makeEarth wsX0_empty := goodIn_r _ [7, 8, 9, 10, 11, 12, 13, 14, 15, 16, 17, 18, 19, 20, 21, 22, 23, 24] (by decide +kernel) (by decide +kernel)
set_option maxRecDepth 20000 in
theorem gX0_makeEarth_X0_empty : GoodIn wsX0_makeEarth (wsV RX0 72 RX0 yX0_empty wsX0_empty) := goodIn_app (goodIn_of _ (by decide +kernel)) ggX0_makeEarth_X0_empty
theorem dX0_makeEarth_0 : decode cX0_makeEarth 0 = .ok (.aload_n 0, 1) := by decide +kernel
theorem dX0_makeEarth_1 : decode cX0_makeEarth 1 = .ok (.iload_n 1, 1) := by decide +kernel
theorem dX0_makeEarth_2 : decode cX0_makeEarth 2 = .ok (.invokevirtual 72, 3) := by decide +kernel
theorem dX0_makeEarth_5 : decode cX0_makeEarth 5 = .ok (.aload_n 0, 1) := by decide +kernel
theorem dX0_makeEarth_6 : decode cX0_makeEarth 6 = .ok (.getfield 18, 3) := by decide +kernel
theorem dX0_makeEarth_9 : decode cX0_makeEarth 9 = .ok (.iload_n 1, 1) := by decide +kernel
theorem dX0_makeEarth_10 : decode cX0_makeEarth 10 = .ok (.iconst 0, 1) := by decide +kernel
theorem dX0_makeEarth_11 : decode cX0_makeEarth 11 = .ok (.iastore, 1) := by decide +kernel
theorem dX0_makeEarth_12 : decode cX0_makeEarth 12 = .ok (.aload_n 0, 1) := by decide +kernel
theorem dX0_makeEarth_13 : decode cX0_makeEarth 13 = .ok (.getfield 9, 3) := by decide +kernel
theorem dX0_makeEarth_16 : decode cX0_makeEarth 16 = .ok (.iload_n 1, 1) := by decide +kernel
theorem dX0_makeEarth_17 : decode cX0_makeEarth 17 = .ok (.iload_n 2, 1) := by decide +kernel
theorem dX0_makeEarth_18 : decode cX0_makeEarth 18 = .ok (.iastore, 1) := by decide +kernel
theorem dX0_makeEarth_19 : decode cX0_makeEarth 19 = .ok (.return_, 1) := by decide +kernel
theorem dX0_empty_0 : decode cX0_empty 0 = .ok (.aload_n 0, 1) := by decide +kernel
theorem dX0_empty_1 : decode cX0_empty 1 = .ok (.getfield 21, 3) := by decide +kernel
theorem dX0_empty_4 : decode cX0_empty 4 = .ok (.iload_n 1, 1) := by decide +kernel
theorem dX0_empty_5 : decode cX0_empty 5 = .ok (.iconst 0, 1) := by decide +kernel
theorem dX0_empty_6 : decode cX0_empty 6 = .ok (.iastore, 1) := by decide +kernel
theorem dX0_empty_7 : decode cX0_empty 7 = .ok (.aload_n 0, 1) := by decide +kernel
theorem dX0_empty_8 : decode cX0_empty 8 = .ok (.getfield 24, 3) := by decide +kernel
theorem dX0_empty_11 : decode cX0_empty 11 = .ok (.iload_n 1, 1) := by decide +kernel
theorem dX0_empty_12 : decode cX0_empty 12 = .ok (.iconst 0, 1) := by decide +kernel
theorem dX0_empty_13 : decode cX0_empty 13 = .ok (.iastore, 1) := by decide +kernel
theorem dX0_empty_14 : decode cX0_empty 14 = .ok (.aload_n 0, 1) := by decide +kernel
theorem dX0_empty_15 : decode cX0_empty 15 = .ok (.getfield 27, 3) := by decide +kernel
theorem dX0_empty_18 : decode cX0_empty 18 = .ok (.iload_n 1, 1) := by decide +kernel
theorem dX0_empty_19 : decode cX0_empty 19 = .ok (.iconst 0, 1) := by decide +kernel
theorem dX0_empty_20 : decode cX0_empty 20 = .ok (.iastore, 1) := by decide +kernel
theorem dX0_empty_21 : decode cX0_empty 21 = .ok (.aload_n 0, 1) := by decide +kernel
theorem dX0_empty_22 : decode cX0_empty 22 = .ok (.getfield 30, 3) := by decide +kernel
theorem dX0_empty_25 : decode cX0_empty 25 = .ok (.iload_n 1, 1) := by decide +kernel
theorem dX0_empty_26 : decode cX0_empty 26 = .ok (.iconst 0, 1) := by decide +kernel
theorem dX0_empty_27 : decode cX0_empty 27 = .ok (.iastore, 1) := by decide +kernel
theorem dX0_empty_28 : decode cX0_empty 28 = .ok (.aload_n 0, 1) := by decide +kernel
theorem dX0_empty_29 : decode cX0_empty 29 = .ok (.getfield 33, 3) := by decide +kernel
theorem dX0_empty_32 : decode cX0_empty 32 = .ok (.iload_n 1, 1) := by decide +kernel
theorem dX0_empty_33 : decode cX0_empty 33 = .ok (.iconst 0, 1) := by decide +kernel
theorem dX0_empty_34 : decode cX0_empty 34 = .ok (.iastore, 1) := by decide +kernel
theorem dX0_empty_35 : decode cX0_empty 35 = .ok (.return_, 1) := by decide +kernel
theorem dX0_workLeft_0 : decode cX0_workLeft 0 = .ok (.iconst 3, 1) := by decide +kernel
theorem dX0_workLeft_1 : decode cX0_workLeft 1 = .ok (.aload_n 0, 1) := by decide +kernel
theorem dX0_workLeft_2 : decode cX0_workLeft 2 = .ok (.getfield 9, 3) := by decide +kernel
theorem dX0_workLeft_5 : decode cX0_workLeft 5 = .ok (.iload_n 1, 1) := by decide +kernel
theorem dX0_workLeft_6 : decode cX0_workLeft 6 = .ok (.iaload, 1) := by decide +kernel
theorem dX0_workLeft_7 : decode cX0_workLeft 7 = .ok (.imul, 1) := by decide +kernel
theorem dX0_workLeft_8 : decode cX0_workLeft 8 = .ok (.aload_n 0, 1) := by decide +kernel
theorem dX0_workLeft_9 : decode cX0_workLeft 9 = .ok (.getfield 30, 3) := by decide +kernel
theorem dX0_workLeft_12 : decode cX0_workLeft 12 = .ok (.iload_n 1, 1) := by decide +kernel
theorem dX0_workLeft_13 : decode cX0_workLeft 13 = .ok (.iaload, 1) := by decide +kernel
theorem dX0_workLeft_14 : decode cX0_workLeft 14 = .ok (.isub, 1) := by decide +kernel
theorem dX0_workLeft_15 : decode cX0_workLeft 15 = .ok (.ireturn, 1) := by decide +kernel
set_option maxRecDepth 20000 in
theorem ggX0_setFire_X0_burn : GoodIn wsX0_setFire wsX0_burn := goodIn_r _ [5, 6, 7, 20, 21, 22, 23, 24, 25, 26, 27, 28, 29, 30, 31] (by decide +kernel) (by decide +kernel)
set_option maxRecDepth 20000 in
theorem gX0_setFire_X0_burn : GoodIn wsX0_setFire (wsV RX0 75 RX0 yX0_burn wsX0_burn) := goodIn_app (goodIn_of _ (by decide +kernel)) ggX0_setFire_X0_burn
set_option maxRecDepth 20000 in
theorem ggX0_setFire_X5_neighbour : GoodIn wsX0_setFire wsX5_neighbour := goodIn_r _ [10] (by decide +kernel) (by decide +kernel)
set_option maxRecDepth 20000 in
theorem gX0_setFire_X5_neighbour_n78 : GoodIn wsX0_setFire (wsX5_neighbour) := ggX0_setFire_X5_neighbour
set_option maxRecDepth 20000 in
theorem ggX0_setFire_X0_isTunnel : GoodIn wsX0_setFire wsX0_isTunnel := goodIn_r _ [14, 15, 20, 21, 22, 23, 24, 25, 26, 27, 28, 29, 30, 31] (by decide +kernel) (by decide +kernel)
set_option maxRecDepth 20000 in
theorem gX0_setFire_X0_isTunnel : GoodIn wsX0_setFire (wsV RX0 82 RX0 yX0_isTunnel wsX0_isTunnel) := goodIn_app (goodIn_of _ (by decide +kernel)) ggX0_setFire_X0_isTunnel
set_option maxRecDepth 20000 in
theorem ggX0_setFire_X0_burnNeighbours : GoodIn wsX0_setFire wsX0_burnNeighbours := goodIn_r _ [19, 8, 9, 10, 11, 12, 13, 4, 14, 15, 1, 2, 3, 5, 6, 7, 20, 21, 22, 23, 24, 25, 26, 27, 28, 29, 30, 31] (by decide +kernel) (by decide +kernel)
set_option maxRecDepth 20000 in
theorem gX0_setFire_X0_burnNeighbours : GoodIn wsX0_setFire (wsV RX0 86 RX0 yX0_burnNeighbours wsX0_burnNeighbours) := goodIn_app (goodIn_of _ (by decide +kernel)) ggX0_setFire_X0_burnNeighbours
theorem dX0_setFire_0 : decode cX0_setFire 0 = .ok (.aload_n 0, 1) := by decide +kernel
theorem dX0_setFire_1 : decode cX0_setFire 1 = .ok (.iload_n 1, 1) := by decide +kernel
theorem dX0_setFire_2 : decode cX0_setFire 2 = .ok (.invokevirtual 75, 3) := by decide +kernel
theorem dX0_setFire_5 : decode cX0_setFire 5 = .ok (.iconst 0, 1) := by decide +kernel
theorem dX0_setFire_6 : decode cX0_setFire 6 = .ok (.istore_n 2, 1) := by decide +kernel
theorem dX0_setFire_7 : decode cX0_setFire 7 = .ok (.iload_n 2, 1) := by decide +kernel
theorem dX0_setFire_8 : decode cX0_setFire 8 = .ok (.iconst 4, 1) := by decide +kernel
theorem dX0_setFire_9 : decode cX0_setFire 9 = .ok (.if_icmp .ge 37, 3) := by decide +kernel
theorem dX0_setFire_12 : decode cX0_setFire 12 = .ok (.iload_n 1, 1) := by decide +kernel
theorem dX0_setFire_13 : decode cX0_setFire 13 = .ok (.iload_n 2, 1) := by decide +kernel
theorem dX0_setFire_14 : decode cX0_setFire 14 = .ok (.invokestatic 78, 3) := by decide +kernel
theorem dX0_setFire_17 : decode cX0_setFire 17 = .ok (.istore_n 3, 1) := by decide +kernel
theorem dX0_setFire_18 : decode cX0_setFire 18 = .ok (.iload_n 3, 1) := by decide +kernel
theorem dX0_setFire_19 : decode cX0_setFire 19 = .ok (.ifCond .lt 21, 3) := by decide +kernel
theorem dX0_setFire_22 : decode cX0_setFire 22 = .ok (.aload_n 0, 1) := by decide +kernel
theorem dX0_setFire_23 : decode cX0_setFire 23 = .ok (.iload_n 3, 1) := by decide +kernel
theorem dX0_setFire_24 : decode cX0_setFire 24 = .ok (.invokevirtual 82, 3) := by decide +kernel
theorem dX0_setFire_27 : decode cX0_setFire 27 = .ok (.ifCond .eq 13, 3) := by decide +kernel
theorem dX0_setFire_30 : decode cX0_setFire 30 = .ok (.aload_n 0, 1) := by decide +kernel
theorem dX0_setFire_31 : decode cX0_setFire 31 = .ok (.iload_n 3, 1) := by decide +kernel
theorem dX0_setFire_32 : decode cX0_setFire 32 = .ok (.invokevirtual 75, 3) := by decide +kernel
theorem dX0_setFire_35 : decode cX0_setFire 35 = .ok (.aload_n 0, 1) := by decide +kernel
theorem dX0_setFire_36 : decode cX0_setFire 36 = .ok (.iload_n 3, 1) := by decide +kernel
theorem dX0_setFire_37 : decode cX0_setFire 37 = .ok (.invokevirtual 86, 3) := by decide +kernel
theorem dX0_setFire_40 : decode cX0_setFire 40 = .ok (.iinc 2 1, 3) := by decide +kernel
theorem dX0_setFire_43 : decode cX0_setFire 43 = .ok (.goto (-36), 3) := by decide +kernel
theorem dX0_setFire_46 : decode cX0_setFire 46 = .ok (.return_, 1) := by decide +kernel
set_option maxRecDepth 20000 in
theorem ggX0_burnNeighbours_X5_neighbour : GoodIn wsX0_burnNeighbours wsX5_neighbour := goodIn_r _ [3] (by decide +kernel) (by decide +kernel)
set_option maxRecDepth 20000 in
theorem gX0_burnNeighbours_X5_neighbour_n78 : GoodIn wsX0_burnNeighbours (wsX5_neighbour) := ggX0_burnNeighbours_X5_neighbour
set_option maxRecDepth 20000 in
theorem ggX0_burnNeighbours_X0_isTunnel : GoodIn wsX0_burnNeighbours wsX0_isTunnel := goodIn_r _ [8, 9, 16, 17, 18, 19, 20, 21, 22, 23, 24, 25, 26, 27] (by decide +kernel) (by decide +kernel)
set_option maxRecDepth 20000 in
theorem gX0_burnNeighbours_X0_isTunnel : GoodIn wsX0_burnNeighbours (wsV RX0 82 RX0 yX0_isTunnel wsX0_isTunnel) := goodIn_app (goodIn_of _ (by decide +kernel)) ggX0_burnNeighbours_X0_isTunnel
set_option maxRecDepth 20000 in
theorem ggX0_burnNeighbours_X0_burn : GoodIn wsX0_burnNeighbours wsX0_burn := goodIn_r _ [13, 14, 15, 16, 17, 18, 19, 20, 21, 22, 23, 24, 25, 26, 27] (by decide +kernel) (by decide +kernel)
set_option maxRecDepth 20000 in
theorem gX0_burnNeighbours_X0_burn : GoodIn wsX0_burnNeighbours (wsV RX0 75 RX0 yX0_burn wsX0_burn) := goodIn_app (goodIn_of _ (by decide +kernel)) ggX0_burnNeighbours_X0_burn
theorem dX0_burnNeighbours_0 : decode cX0_burnNeighbours 0 = .ok (.iconst 0, 1) := by decide +kernel
theorem dX0_burnNeighbours_1 : decode cX0_burnNeighbours 1 = .ok (.istore_n 2, 1) := by decide +kernel
theorem dX0_burnNeighbours_2 : decode cX0_burnNeighbours 2 = .ok (.iload_n 2, 1) := by decide +kernel
theorem dX0_burnNeighbours_3 : decode cX0_burnNeighbours 3 = .ok (.iconst 4, 1) := by decide +kernel
theorem dX0_burnNeighbours_4 : decode cX0_burnNeighbours 4 = .ok (.if_icmp .ge 32, 3) := by decide +kernel
theorem dX0_burnNeighbours_7 : decode cX0_burnNeighbours 7 = .ok (.iload_n 1, 1) := by decide +kernel
theorem dX0_burnNeighbours_8 : decode cX0_burnNeighbours 8 = .ok (.iload_n 2, 1) := by decide +kernel
theorem dX0_burnNeighbours_9 : decode cX0_burnNeighbours 9 = .ok (.invokestatic 78, 3) := by decide +kernel
theorem dX0_burnNeighbours_12 : decode cX0_burnNeighbours 12 = .ok (.istore_n 3, 1) := by decide +kernel
theorem dX0_burnNeighbours_13 : decode cX0_burnNeighbours 13 = .ok (.iload_n 3, 1) := by decide +kernel
theorem dX0_burnNeighbours_14 : decode cX0_burnNeighbours 14 = .ok (.ifCond .lt 16, 3) := by decide +kernel
theorem dX0_burnNeighbours_17 : decode cX0_burnNeighbours 17 = .ok (.aload_n 0, 1) := by decide +kernel
theorem dX0_burnNeighbours_18 : decode cX0_burnNeighbours 18 = .ok (.iload_n 3, 1) := by decide +kernel
theorem dX0_burnNeighbours_19 : decode cX0_burnNeighbours 19 = .ok (.invokevirtual 82, 3) := by decide +kernel
theorem dX0_burnNeighbours_22 : decode cX0_burnNeighbours 22 = .ok (.ifCond .eq 8, 3) := by decide +kernel
theorem dX0_burnNeighbours_25 : decode cX0_burnNeighbours 25 = .ok (.aload_n 0, 1) := by decide +kernel
theorem dX0_burnNeighbours_26 : decode cX0_burnNeighbours 26 = .ok (.iload_n 3, 1) := by decide +kernel
theorem dX0_burnNeighbours_27 : decode cX0_burnNeighbours 27 = .ok (.invokevirtual 75, 3) := by decide +kernel
theorem dX0_burnNeighbours_30 : decode cX0_burnNeighbours 30 = .ok (.iinc 2 1, 3) := by decide +kernel
theorem dX0_burnNeighbours_33 : decode cX0_burnNeighbours 33 = .ok (.goto (-31), 3) := by decide +kernel
theorem dX0_burnNeighbours_36 : decode cX0_burnNeighbours 36 = .ok (.return_, 1) := by decide +kernel
theorem dX0_burn_0 : decode cX0_burn 0 = .ok (.aload_n 0, 1) := by decide +kernel
theorem dX0_burn_1 : decode cX0_burn 1 = .ok (.getfield 21, 3) := by decide +kernel
theorem dX0_burn_4 : decode cX0_burn 4 = .ok (.iload_n 1, 1) := by decide +kernel
theorem dX0_burn_5 : decode cX0_burn 5 = .ok (.iconst 0, 1) := by decide +kernel
theorem dX0_burn_6 : decode cX0_burn 6 = .ok (.iastore, 1) := by decide +kernel
theorem dX0_burn_7 : decode cX0_burn 7 = .ok (.aload_n 0, 1) := by decide +kernel
theorem dX0_burn_8 : decode cX0_burn 8 = .ok (.getfield 33, 3) := by decide +kernel
theorem dX0_burn_11 : decode cX0_burn 11 = .ok (.iload_n 1, 1) := by decide +kernel
theorem dX0_burn_12 : decode cX0_burn 12 = .ok (.iaload, 1) := by decide +kernel
theorem dX0_burn_13 : decode cX0_burn 13 = .ok (.ifCond .ne 10, 3) := by decide +kernel
theorem dX0_burn_16 : decode cX0_burn 16 = .ok (.aload_n 0, 1) := by decide +kernel
theorem dX0_burn_17 : decode cX0_burn 17 = .ok (.getfield 33, 3) := by decide +kernel
theorem dX0_burn_20 : decode cX0_burn 20 = .ok (.iload_n 1, 1) := by decide +kernel
theorem dX0_burn_21 : decode cX0_burn 21 = .ok (.iconst 4, 1) := by decide +kernel
theorem dX0_burn_22 : decode cX0_burn 22 = .ok (.iastore, 1) := by decide +kernel
theorem dX0_burn_23 : decode cX0_burn 23 = .ok (.return_, 1) := by decide +kernel
set_option maxRecDepth 20000 in
theorem ggX0_spreadSmoke_X0_allSmoke : GoodIn wsX0_spreadSmoke wsX0_allSmoke := goodIn_r _ [15, 1, 28, 29, 30, 31, 32, 33, 34, 35, 36, 37, 38, 39] (by decide +kernel) (by decide +kernel)
set_option maxRecDepth 20000 in
theorem gX0_spreadSmoke_X0_allSmoke : GoodIn wsX0_spreadSmoke (wsV RX0 89 RX0 yX0_allSmoke wsX0_allSmoke) := goodIn_app (goodIn_of _ (by decide +kernel)) ggX0_spreadSmoke_X0_allSmoke
set_option maxRecDepth 20000 in
theorem ggX0_spreadSmoke_X0_isTunnel : GoodIn wsX0_spreadSmoke wsX0_isTunnel := goodIn_r _ [19, 20, 28, 29, 30, 31, 32, 33, 34, 35, 36, 37, 38, 39] (by decide +kernel) (by decide +kernel)
set_option maxRecDepth 20000 in
theorem gX0_spreadSmoke_X0_isTunnel : GoodIn wsX0_spreadSmoke (wsV RX0 82 RX0 yX0_isTunnel wsX0_isTunnel) := goodIn_app (goodIn_of _ (by decide +kernel)) ggX0_spreadSmoke_X0_isTunnel
set_option maxRecDepth 20000 in
theorem ggX0_spreadSmoke_X0_averageSmokeBefore : GoodIn wsX0_spreadSmoke wsX0_averageSmokeBefore := goodIn_r _ [24, 2, 25, 26, 27, 16, 17, 18, 14, 19, 20, 28, 29, 30, 31, 32, 33, 34, 35, 36, 37, 38, 39] (by decide +kernel) (by decide +kernel)
set_option maxRecDepth 20000 in
theorem gX0_spreadSmoke_X0_averageSmokeBefore : GoodIn wsX0_spreadSmoke (wsV RX0 93 RX0 yX0_averageSmokeBefore wsX0_averageSmokeBefore) := goodIn_app (goodIn_of _ (by decide +kernel)) ggX0_spreadSmoke_X0_averageSmokeBefore
theorem dX0_spreadSmoke_0 : decode cX0_spreadSmoke 0 = .ok (.aload_n 0, 1) := by decide +kernel
theorem dX0_spreadSmoke_1 : decode cX0_spreadSmoke 1 = .ok (.invokevirtual 89, 3) := by decide +kernel
theorem dX0_spreadSmoke_4 : decode cX0_spreadSmoke 4 = .ok (.ifCond .ne 4, 3) := by decide +kernel
theorem dX0_spreadSmoke_7 : decode cX0_spreadSmoke 7 = .ok (.return_, 1) := by decide +kernel
theorem dX0_spreadSmoke_8 : decode cX0_spreadSmoke 8 = .ok (.aload_n 0, 1) := by decide +kernel
theorem dX0_spreadSmoke_9 : decode cX0_spreadSmoke 9 = .ok (.getfield 27, 3) := by decide +kernel
theorem dX0_spreadSmoke_12 : decode cX0_spreadSmoke 12 = .ok (.iconst 0, 1) := by decide +kernel
theorem dX0_spreadSmoke_13 : decode cX0_spreadSmoke 13 = .ok (.aload_n 0, 1) := by decide +kernel
theorem dX0_spreadSmoke_14 : decode cX0_spreadSmoke 14 = .ok (.getfield 39, 3) := by decide +kernel
theorem dX0_spreadSmoke_17 : decode cX0_spreadSmoke 17 = .ok (.iconst 0, 1) := by decide +kernel
theorem dX0_spreadSmoke_18 : decode cX0_spreadSmoke 18 = .ok (.sipush 144, 3) := by decide +kernel
theorem dX0_spreadSmoke_21 : decode cX0_spreadSmoke 21 = .ok (.invokestatic 55, 3) := by decide +kernel
theorem dX0_spreadSmoke_24 : decode cX0_spreadSmoke 24 = .ok (.iconst 0, 1) := by decide +kernel
theorem dX0_spreadSmoke_25 : decode cX0_spreadSmoke 25 = .ok (.istore_n 1, 1) := by decide +kernel
theorem dX0_spreadSmoke_26 : decode cX0_spreadSmoke 26 = .ok (.iload_n 1, 1) := by decide +kernel
theorem dX0_spreadSmoke_27 : decode cX0_spreadSmoke 27 = .ok (.sipush 144, 3) := by decide +kernel
theorem dX0_spreadSmoke_30 : decode cX0_spreadSmoke 30 = .ok (.if_icmp .ge 34, 3) := by decide +kernel
theorem dX0_spreadSmoke_33 : decode cX0_spreadSmoke 33 = .ok (.aload_n 0, 1) := by decide +kernel
theorem dX0_spreadSmoke_34 : decode cX0_spreadSmoke 34 = .ok (.iload_n 1, 1) := by decide +kernel
theorem dX0_spreadSmoke_35 : decode cX0_spreadSmoke 35 = .ok (.invokevirtual 82, 3) := by decide +kernel
theorem dX0_spreadSmoke_38 : decode cX0_spreadSmoke 38 = .ok (.ifCond .eq 20, 3) := by decide +kernel
theorem dX0_spreadSmoke_41 : decode cX0_spreadSmoke 41 = .ok (.aload_n 0, 1) := by decide +kernel
theorem dX0_spreadSmoke_42 : decode cX0_spreadSmoke 42 = .ok (.getfield 27, 3) := by decide +kernel
theorem dX0_spreadSmoke_45 : decode cX0_spreadSmoke 45 = .ok (.iload_n 1, 1) := by decide +kernel
theorem dX0_spreadSmoke_46 : decode cX0_spreadSmoke 46 = .ok (.iconst 0, 1) := by decide +kernel
theorem dX0_spreadSmoke_47 : decode cX0_spreadSmoke 47 = .ok (.aload_n 0, 1) := by decide +kernel
theorem dX0_spreadSmoke_48 : decode cX0_spreadSmoke 48 = .ok (.iload_n 1, 1) := by decide +kernel
theorem dX0_spreadSmoke_49 : decode cX0_spreadSmoke 49 = .ok (.invokevirtual 93, 3) := by decide +kernel
theorem dX0_spreadSmoke_52 : decode cX0_spreadSmoke 52 = .ok (.iconst 1, 1) := by decide +kernel
theorem dX0_spreadSmoke_53 : decode cX0_spreadSmoke 53 = .ok (.isub, 1) := by decide +kernel
theorem dX0_spreadSmoke_54 : decode cX0_spreadSmoke 54 = .ok (.invokestatic 97, 3) := by decide +kernel
theorem dX0_spreadSmoke_57 : decode cX0_spreadSmoke 57 = .ok (.iastore, 1) := by decide +kernel
theorem dX0_spreadSmoke_58 : decode cX0_spreadSmoke 58 = .ok (.iinc 1 1, 3) := by decide +kernel
theorem dX0_spreadSmoke_61 : decode cX0_spreadSmoke 61 = .ok (.goto (-35), 3) := by decide +kernel
theorem dX0_spreadSmoke_64 : decode cX0_spreadSmoke 64 = .ok (.return_, 1) := by decide +kernel
set_option maxRecDepth 20000 in
theorem ggX0_averageSmokeBefore_X5_neighbour : GoodIn wsX0_averageSmokeBefore wsX5_neighbour := goodIn_r _ [4] (by decide +kernel) (by decide +kernel)
set_option maxRecDepth 20000 in
theorem gX0_averageSmokeBefore_X5_neighbour_n78 : GoodIn wsX0_averageSmokeBefore (wsX5_neighbour) := ggX0_averageSmokeBefore_X5_neighbour
set_option maxRecDepth 20000 in
theorem ggX0_averageSmokeBefore_X0_isTunnel : GoodIn wsX0_averageSmokeBefore wsX0_isTunnel := goodIn_r _ [9, 10, 11, 12, 13, 14, 15, 16, 17, 18, 19, 20, 21, 22] (by decide +kernel) (by decide +kernel)
set_option maxRecDepth 20000 in
theorem gX0_averageSmokeBefore_X0_isTunnel : GoodIn wsX0_averageSmokeBefore (wsV RX0 82 RX0 yX0_isTunnel wsX0_isTunnel) := goodIn_app (goodIn_of _ (by decide +kernel)) ggX0_averageSmokeBefore_X0_isTunnel
theorem dX0_averageSmokeBefore_0 : decode cX0_averageSmokeBefore 0 = .ok (.aload_n 0, 1) := by decide +kernel
theorem dX0_averageSmokeBefore_1 : decode cX0_averageSmokeBefore 1 = .ok (.getfield 39, 3) := by decide +kernel
theorem dX0_averageSmokeBefore_4 : decode cX0_averageSmokeBefore 4 = .ok (.iload_n 1, 1) := by decide +kernel
theorem dX0_averageSmokeBefore_5 : decode cX0_averageSmokeBefore 5 = .ok (.iaload, 1) := by decide +kernel
theorem dX0_averageSmokeBefore_6 : decode cX0_averageSmokeBefore 6 = .ok (.istore_n 2, 1) := by decide +kernel
theorem dX0_averageSmokeBefore_7 : decode cX0_averageSmokeBefore 7 = .ok (.iconst 1, 1) := by decide +kernel
theorem dX0_averageSmokeBefore_8 : decode cX0_averageSmokeBefore 8 = .ok (.istore_n 3, 1) := by decide +kernel
theorem dX0_averageSmokeBefore_9 : decode cX0_averageSmokeBefore 9 = .ok (.iconst 0, 1) := by decide +kernel
theorem dX0_averageSmokeBefore_10 : decode cX0_averageSmokeBefore 10 = .ok (.istore 4, 2) := by decide +kernel
theorem dX0_averageSmokeBefore_12 : decode cX0_averageSmokeBefore 12 = .ok (.iload 4, 2) := by decide +kernel
theorem dX0_averageSmokeBefore_14 : decode cX0_averageSmokeBefore 14 = .ok (.iconst 4, 1) := by decide +kernel
theorem dX0_averageSmokeBefore_15 : decode cX0_averageSmokeBefore 15 = .ok (.if_icmp .ge 44, 3) := by decide +kernel
theorem dX0_averageSmokeBefore_18 : decode cX0_averageSmokeBefore 18 = .ok (.iload_n 1, 1) := by decide +kernel
theorem dX0_averageSmokeBefore_19 : decode cX0_averageSmokeBefore 19 = .ok (.iload 4, 2) := by decide +kernel
theorem dX0_averageSmokeBefore_21 : decode cX0_averageSmokeBefore 21 = .ok (.invokestatic 78, 3) := by decide +kernel
theorem dX0_averageSmokeBefore_24 : decode cX0_averageSmokeBefore 24 = .ok (.istore 5, 2) := by decide +kernel
theorem dX0_averageSmokeBefore_26 : decode cX0_averageSmokeBefore 26 = .ok (.iload 5, 2) := by decide +kernel
theorem dX0_averageSmokeBefore_28 : decode cX0_averageSmokeBefore 28 = .ok (.ifCond .lt 25, 3) := by decide +kernel
theorem dX0_averageSmokeBefore_31 : decode cX0_averageSmokeBefore 31 = .ok (.aload_n 0, 1) := by decide +kernel
theorem dX0_averageSmokeBefore_32 : decode cX0_averageSmokeBefore 32 = .ok (.iload 5, 2) := by decide +kernel
theorem dX0_averageSmokeBefore_34 : decode cX0_averageSmokeBefore 34 = .ok (.invokevirtual 82, 3) := by decide +kernel
theorem dX0_averageSmokeBefore_37 : decode cX0_averageSmokeBefore 37 = .ok (.ifCond .eq 16, 3) := by decide +kernel
theorem dX0_averageSmokeBefore_40 : decode cX0_averageSmokeBefore 40 = .ok (.iload_n 2, 1) := by decide +kernel
theorem dX0_averageSmokeBefore_41 : decode cX0_averageSmokeBefore 41 = .ok (.aload_n 0, 1) := by decide +kernel
theorem dX0_averageSmokeBefore_42 : decode cX0_averageSmokeBefore 42 = .ok (.getfield 39, 3) := by decide +kernel
theorem dX0_averageSmokeBefore_45 : decode cX0_averageSmokeBefore 45 = .ok (.iload 5, 2) := by decide +kernel
theorem dX0_averageSmokeBefore_47 : decode cX0_averageSmokeBefore 47 = .ok (.iaload, 1) := by decide +kernel
theorem dX0_averageSmokeBefore_48 : decode cX0_averageSmokeBefore 48 = .ok (.iadd, 1) := by decide +kernel
theorem dX0_averageSmokeBefore_49 : decode cX0_averageSmokeBefore 49 = .ok (.istore_n 2, 1) := by decide +kernel
theorem dX0_averageSmokeBefore_50 : decode cX0_averageSmokeBefore 50 = .ok (.iinc 3 1, 3) := by decide +kernel
theorem dX0_averageSmokeBefore_53 : decode cX0_averageSmokeBefore 53 = .ok (.iinc 4 1, 3) := by decide +kernel
theorem dX0_averageSmokeBefore_56 : decode cX0_averageSmokeBefore 56 = .ok (.goto (-44), 3) := by decide +kernel
theorem dX0_averageSmokeBefore_59 : decode cX0_averageSmokeBefore 59 = .ok (.iload_n 2, 1) := by decide +kernel
theorem dX0_averageSmokeBefore_60 : decode cX0_averageSmokeBefore 60 = .ok (.iload_n 3, 1) := by decide +kernel
theorem dX0_averageSmokeBefore_61 : decode cX0_averageSmokeBefore 61 = .ok (.idiv, 1) := by decide +kernel
theorem dX0_averageSmokeBefore_62 : decode cX0_averageSmokeBefore 62 = .ok (.ireturn, 1) := by decide +kernel
set_option maxRecDepth 20000 in
theorem ggX0_settle_X0_isTunnel : GoodIn wsX0_settle wsX0_isTunnel := goodIn_r _ [6, 7, 41, 42, 43, 44, 45, 46, 47, 48, 49, 50, 51, 52] (by decide +kernel) (by decide +kernel)
set_option maxRecDepth 20000 in
theorem gX0_settle_X0_isTunnel : GoodIn wsX0_settle (wsV RX0 82 RX0 yX0_isTunnel wsX0_isTunnel) := goodIn_app (goodIn_of _ (by decide +kernel)) ggX0_settle_X0_isTunnel
set_option maxRecDepth 20000 in
theorem ggX0_settle_X0_givesWay : GoodIn wsX0_settle wsX0_givesWay := goodIn_r _ [11, 12, 13, 14, 15, 16, 17, 18, 5, 19, 41, 42, 43, 44, 45, 46, 47, 48, 49, 50, 51, 52] (by decide +kernel) (by decide +kernel)
set_option maxRecDepth 20000 in
theorem gX0_settle_X0_givesWay : GoodIn wsX0_settle (wsV RX0 102 RX0 yX0_givesWay wsX0_givesWay) := goodIn_app (goodIn_of _ (by decide +kernel)) ggX0_settle_X0_givesWay
set_option maxRecDepth 20000 in
theorem ggX0_settle_X0_fallIn : GoodIn wsX0_settle wsX0_fallIn := goodIn_r _ [23, 1, 24, 25, 26, 27, 28, 29, 30, 31, 32, 33, 5, 34, 7, 15, 35, 36, 37, 38, 13, 14, 39, 40, 12, 41, 42, 43, 44, 45, 46, 47, 48, 49, 50, 51, 52] (by decide +kernel) (by decide +kernel)
set_option maxRecDepth 20000 in
theorem gX0_settle_X0_fallIn : GoodIn wsX0_settle (wsV RX0 105 RX0 yX0_fallIn wsX0_fallIn) := goodIn_app (goodIn_of _ (by decide +kernel)) ggX0_settle_X0_fallIn
theorem dX0_settle_0 : decode cX0_settle 0 = .ok (.iconst 0, 1) := by decide +kernel
theorem dX0_settle_1 : decode cX0_settle 1 = .ok (.istore_n 1, 1) := by decide +kernel
theorem dX0_settle_2 : decode cX0_settle 2 = .ok (.iload_n 1, 1) := by decide +kernel
theorem dX0_settle_3 : decode cX0_settle 3 = .ok (.sipush 144, 3) := by decide +kernel
theorem dX0_settle_6 : decode cX0_settle 6 = .ok (.if_icmp .ge 37, 3) := by decide +kernel
theorem dX0_settle_9 : decode cX0_settle 9 = .ok (.aload_n 0, 1) := by decide +kernel
theorem dX0_settle_10 : decode cX0_settle 10 = .ok (.getfield 36, 3) := by decide +kernel
theorem dX0_settle_13 : decode cX0_settle 13 = .ok (.iload_n 1, 1) := by decide +kernel
theorem dX0_settle_14 : decode cX0_settle 14 = .ok (.iconst 0, 1) := by decide +kernel
theorem dX0_settle_15 : decode cX0_settle 15 = .ok (.iastore, 1) := by decide +kernel
theorem dX0_settle_16 : decode cX0_settle 16 = .ok (.aload_n 0, 1) := by decide +kernel
theorem dX0_settle_17 : decode cX0_settle 17 = .ok (.iload_n 1, 1) := by decide +kernel
theorem dX0_settle_18 : decode cX0_settle 18 = .ok (.invokevirtual 82, 3) := by decide +kernel
theorem dX0_settle_21 : decode cX0_settle 21 = .ok (.ifCond .eq 16, 3) := by decide +kernel
theorem dX0_settle_24 : decode cX0_settle 24 = .ok (.aload_n 0, 1) := by decide +kernel
theorem dX0_settle_25 : decode cX0_settle 25 = .ok (.iload_n 1, 1) := by decide +kernel
theorem dX0_settle_26 : decode cX0_settle 26 = .ok (.invokevirtual 102, 3) := by decide +kernel
theorem dX0_settle_29 : decode cX0_settle 29 = .ok (.ifCond .eq 8, 3) := by decide +kernel
theorem dX0_settle_32 : decode cX0_settle 32 = .ok (.aload_n 0, 1) := by decide +kernel
theorem dX0_settle_33 : decode cX0_settle 33 = .ok (.iload_n 1, 1) := by decide +kernel
theorem dX0_settle_34 : decode cX0_settle 34 = .ok (.invokevirtual 105, 3) := by decide +kernel
theorem dX0_settle_37 : decode cX0_settle 37 = .ok (.iinc 1 1, 3) := by decide +kernel
theorem dX0_settle_40 : decode cX0_settle 40 = .ok (.goto (-38), 3) := by decide +kernel
theorem dX0_settle_43 : decode cX0_settle 43 = .ok (.return_, 1) := by decide +kernel
set_option maxRecDepth 20000 in
theorem ggX0_givesWay_X0_propsNeeded : GoodIn wsX0_givesWay wsX0_propsNeeded := goodIn_r _ [9, 4, 10, 11, 12, 13, 14, 15, 16, 17, 18, 19, 20, 21] (by decide +kernel) (by decide +kernel)
set_option maxRecDepth 20000 in
theorem gX0_givesWay_X0_propsNeeded : GoodIn wsX0_givesWay (wsV RX0 108 RX0 yX0_propsNeeded wsX0_propsNeeded) := goodIn_app (goodIn_of _ (by decide +kernel)) ggX0_givesWay_X0_propsNeeded
theorem dX0_givesWay_0 : decode cX0_givesWay 0 = .ok (.aload_n 0, 1) := by decide +kernel
theorem dX0_givesWay_1 : decode cX0_givesWay 1 = .ok (.getfield 33, 3) := by decide +kernel
theorem dX0_givesWay_4 : decode cX0_givesWay 4 = .ok (.iload_n 1, 1) := by decide +kernel
theorem dX0_givesWay_5 : decode cX0_givesWay 5 = .ok (.iaload, 1) := by decide +kernel
theorem dX0_givesWay_6 : decode cX0_givesWay 6 = .ok (.ifCond .le 28, 3) := by decide +kernel
theorem dX0_givesWay_9 : decode cX0_givesWay 9 = .ok (.aload_n 0, 1) := by decide +kernel
theorem dX0_givesWay_10 : decode cX0_givesWay 10 = .ok (.getfield 33, 3) := by decide +kernel
theorem dX0_givesWay_13 : decode cX0_givesWay 13 = .ok (.iload_n 1, 1) := by decide +kernel
theorem dX0_givesWay_14 : decode cX0_givesWay 14 = .ok (.dup2, 1) := by decide +kernel
theorem dX0_givesWay_15 : decode cX0_givesWay 15 = .ok (.iaload, 1) := by decide +kernel
theorem dX0_givesWay_16 : decode cX0_givesWay 16 = .ok (.iconst 1, 1) := by decide +kernel
theorem dX0_givesWay_17 : decode cX0_givesWay 17 = .ok (.isub, 1) := by decide +kernel
theorem dX0_givesWay_18 : decode cX0_givesWay 18 = .ok (.iastore, 1) := by decide +kernel
theorem dX0_givesWay_19 : decode cX0_givesWay 19 = .ok (.aload_n 0, 1) := by decide +kernel
theorem dX0_givesWay_20 : decode cX0_givesWay 20 = .ok (.getfield 33, 3) := by decide +kernel
theorem dX0_givesWay_23 : decode cX0_givesWay 23 = .ok (.iload_n 1, 1) := by decide +kernel
theorem dX0_givesWay_24 : decode cX0_givesWay 24 = .ok (.iaload, 1) := by decide +kernel
theorem dX0_givesWay_25 : decode cX0_givesWay 25 = .ok (.ifCond .ne 7, 3) := by decide +kernel
theorem dX0_givesWay_28 : decode cX0_givesWay 28 = .ok (.iconst 1, 1) := by decide +kernel
theorem dX0_givesWay_29 : decode cX0_givesWay 29 = .ok (.goto 4, 3) := by decide +kernel
theorem dX0_givesWay_32 : decode cX0_givesWay 32 = .ok (.iconst 0, 1) := by decide +kernel
theorem dX0_givesWay_33 : decode cX0_givesWay 33 = .ok (.ireturn, 1) := by decide +kernel
theorem dX0_givesWay_34 : decode cX0_givesWay 34 = .ok (.aload_n 0, 1) := by decide +kernel
theorem dX0_givesWay_35 : decode cX0_givesWay 35 = .ok (.getfield 21, 3) := by decide +kernel
theorem dX0_givesWay_38 : decode cX0_givesWay 38 = .ok (.iload_n 1, 1) := by decide +kernel
theorem dX0_givesWay_39 : decode cX0_givesWay 39 = .ok (.iaload, 1) := by decide +kernel
theorem dX0_givesWay_40 : decode cX0_givesWay 40 = .ok (.aload_n 0, 1) := by decide +kernel
theorem dX0_givesWay_41 : decode cX0_givesWay 41 = .ok (.iload_n 1, 1) := by decide +kernel
theorem dX0_givesWay_42 : decode cX0_givesWay 42 = .ok (.invokevirtual 108, 3) := by decide +kernel
theorem dX0_givesWay_45 : decode cX0_givesWay 45 = .ok (.if_icmp .lt 13, 3) := by decide +kernel
theorem dX0_givesWay_48 : decode cX0_givesWay 48 = .ok (.aload_n 0, 1) := by decide +kernel
theorem dX0_givesWay_49 : decode cX0_givesWay 49 = .ok (.getfield 24, 3) := by decide +kernel
theorem dX0_givesWay_52 : decode cX0_givesWay 52 = .ok (.iload_n 1, 1) := by decide +kernel
theorem dX0_givesWay_53 : decode cX0_givesWay 53 = .ok (.iconst 0, 1) := by decide +kernel
theorem dX0_givesWay_54 : decode cX0_givesWay 54 = .ok (.iastore, 1) := by decide +kernel
theorem dX0_givesWay_55 : decode cX0_givesWay 55 = .ok (.goto 13, 3) := by decide +kernel
theorem dX0_givesWay_58 : decode cX0_givesWay 58 = .ok (.aload_n 0, 1) := by decide +kernel
theorem dX0_givesWay_59 : decode cX0_givesWay 59 = .ok (.getfield 24, 3) := by decide +kernel
theorem dX0_givesWay_62 : decode cX0_givesWay 62 = .ok (.iload_n 1, 1) := by decide +kernel
theorem dX0_givesWay_63 : decode cX0_givesWay 63 = .ok (.dup2, 1) := by decide +kernel
theorem dX0_givesWay_64 : decode cX0_givesWay 64 = .ok (.iaload, 1) := by decide +kernel
theorem dX0_givesWay_65 : decode cX0_givesWay 65 = .ok (.iconst 1, 1) := by decide +kernel
theorem dX0_givesWay_66 : decode cX0_givesWay 66 = .ok (.iadd, 1) := by decide +kernel
theorem dX0_givesWay_67 : decode cX0_givesWay 67 = .ok (.iastore, 1) := by decide +kernel
theorem dX0_givesWay_68 : decode cX0_givesWay 68 = .ok (.aload_n 0, 1) := by decide +kernel
theorem dX0_givesWay_69 : decode cX0_givesWay 69 = .ok (.getfield 24, 3) := by decide +kernel
theorem dX0_givesWay_72 : decode cX0_givesWay 72 = .ok (.iload_n 1, 1) := by decide +kernel
theorem dX0_givesWay_73 : decode cX0_givesWay 73 = .ok (.iaload, 1) := by decide +kernel
theorem dX0_givesWay_74 : decode cX0_givesWay 74 = .ok (.iconst 4, 1) := by decide +kernel
theorem dX0_givesWay_75 : decode cX0_givesWay 75 = .ok (.aload_n 0, 1) := by decide +kernel
theorem dX0_givesWay_76 : decode cX0_givesWay 76 = .ok (.getfield 9, 3) := by decide +kernel
theorem dX0_givesWay_79 : decode cX0_givesWay 79 = .ok (.iload_n 1, 1) := by decide +kernel
theorem dX0_givesWay_80 : decode cX0_givesWay 80 = .ok (.iaload, 1) := by decide +kernel
theorem dX0_givesWay_81 : decode cX0_givesWay 81 = .ok (.imul, 1) := by decide +kernel
theorem dX0_givesWay_82 : decode cX0_givesWay 82 = .ok (.if_icmp .le 7, 3) := by decide +kernel
theorem dX0_givesWay_85 : decode cX0_givesWay 85 = .ok (.iconst 1, 1) := by decide +kernel
theorem dX0_givesWay_86 : decode cX0_givesWay 86 = .ok (.goto 4, 3) := by decide +kernel
theorem dX0_givesWay_89 : decode cX0_givesWay 89 = .ok (.iconst 0, 1) := by decide +kernel
theorem dX0_givesWay_90 : decode cX0_givesWay 90 = .ok (.ireturn, 1) := by decide +kernel
theorem dX0_propsNeeded_0 : decode cX0_propsNeeded 0 = .ok (.aload_n 0, 1) := by decide +kernel
theorem dX0_propsNeeded_1 : decode cX0_propsNeeded 1 = .ok (.getfield 9, 3) := by decide +kernel
theorem dX0_propsNeeded_4 : decode cX0_propsNeeded 4 = .ok (.iload_n 1, 1) := by decide +kernel
theorem dX0_propsNeeded_5 : decode cX0_propsNeeded 5 = .ok (.iaload, 1) := by decide +kernel
theorem dX0_propsNeeded_6 : decode cX0_propsNeeded 6 = .ok (.bipush 7, 2) := by decide +kernel
theorem dX0_propsNeeded_8 : decode cX0_propsNeeded 8 = .ok (.if_icmp .lt 5, 3) := by decide +kernel
theorem dX0_propsNeeded_11 : decode cX0_propsNeeded 11 = .ok (.iconst 0, 1) := by decide +kernel
theorem dX0_propsNeeded_12 : decode cX0_propsNeeded 12 = .ok (.ireturn, 1) := by decide +kernel
theorem dX0_propsNeeded_13 : decode cX0_propsNeeded 13 = .ok (.aload_n 0, 1) := by decide +kernel
theorem dX0_propsNeeded_14 : decode cX0_propsNeeded 14 = .ok (.getfield 9, 3) := by decide +kernel
theorem dX0_propsNeeded_17 : decode cX0_propsNeeded 17 = .ok (.iload_n 1, 1) := by decide +kernel
theorem dX0_propsNeeded_18 : decode cX0_propsNeeded 18 = .ok (.iaload, 1) := by decide +kernel
theorem dX0_propsNeeded_19 : decode cX0_propsNeeded 19 = .ok (.iconst 4, 1) := by decide +kernel
theorem dX0_propsNeeded_20 : decode cX0_propsNeeded 20 = .ok (.if_icmp .lt 7, 3) := by decide +kernel
theorem dX0_propsNeeded_23 : decode cX0_propsNeeded 23 = .ok (.iconst 1, 1) := by decide +kernel
theorem dX0_propsNeeded_24 : decode cX0_propsNeeded 24 = .ok (.goto 4, 3) := by decide +kernel
theorem dX0_propsNeeded_27 : decode cX0_propsNeeded 27 = .ok (.iconst 2, 1) := by decide +kernel
theorem dX0_propsNeeded_28 : decode cX0_propsNeeded 28 = .ok (.ireturn, 1) := by decide +kernel
set_option maxRecDepth 20000 in
theorem ggX0_fallIn_X0_makeEarth : GoodIn wsX0_fallIn wsX0_makeEarth := goodIn_r _ [13, 14, 15, 16, 17, 18, 12, 19, 20, 21, 22, 23, 24, 25, 26, 27, 28, 29, 30, 31, 32, 33, 34, 35, 36] (by decide +kernel) (by decide +kernel)
set_option maxRecDepth 20000 in
theorem gX0_fallIn_X0_makeEarth : GoodIn wsX0_fallIn (wsV RX0 65 RX0 yX0_makeEarth wsX0_makeEarth) := goodIn_app (goodIn_of _ (by decide +kernel)) ggX0_fallIn_X0_makeEarth
theorem dX0_fallIn_0 : decode cX0_fallIn 0 = .ok (.aload_n 0, 1) := by decide +kernel
theorem dX0_fallIn_1 : decode cX0_fallIn 1 = .ok (.iload_n 1, 1) := by decide +kernel
theorem dX0_fallIn_2 : decode cX0_fallIn 2 = .ok (.iconst 2, 1) := by decide +kernel
theorem dX0_fallIn_3 : decode cX0_fallIn 3 = .ok (.invokevirtual 65, 3) := by decide +kernel
theorem dX0_fallIn_6 : decode cX0_fallIn 6 = .ok (.aload_n 0, 1) := by decide +kernel
theorem dX0_fallIn_7 : decode cX0_fallIn 7 = .ok (.getfield 36, 3) := by decide +kernel
theorem dX0_fallIn_10 : decode cX0_fallIn 10 = .ok (.iload_n 1, 1) := by decide +kernel
theorem dX0_fallIn_11 : decode cX0_fallIn 11 = .ok (.iconst 1, 1) := by decide +kernel
theorem dX0_fallIn_12 : decode cX0_fallIn 12 = .ok (.iastore, 1) := by decide +kernel
theorem dX0_fallIn_13 : decode cX0_fallIn 13 = .ok (.aload_n 0, 1) := by decide +kernel
theorem dX0_fallIn_14 : decode cX0_fallIn 14 = .ok (.dup, 1) := by decide +kernel
theorem dX0_fallIn_15 : decode cX0_fallIn 15 = .ok (.getfield 42, 3) := by decide +kernel
theorem dX0_fallIn_18 : decode cX0_fallIn 18 = .ok (.iconst 1, 1) := by decide +kernel
theorem dX0_fallIn_19 : decode cX0_fallIn 19 = .ok (.iadd, 1) := by decide +kernel
theorem dX0_fallIn_20 : decode cX0_fallIn 20 = .ok (.putfield 42, 3) := by decide +kernel
theorem dX0_fallIn_23 : decode cX0_fallIn 23 = .ok (.aload_n 0, 1) := by decide +kernel
theorem dX0_fallIn_24 : decode cX0_fallIn 24 = .ok (.getfield 15, 3) := by decide +kernel
theorem dX0_fallIn_27 : decode cX0_fallIn 27 = .ok (.iload_n 1, 1) := by decide +kernel
theorem dX0_fallIn_28 : decode cX0_fallIn 28 = .ok (.iaload, 1) := by decide +kernel
theorem dX0_fallIn_29 : decode cX0_fallIn 29 = .ok (.ifCond .le 41, 3) := by decide +kernel
theorem dX0_fallIn_32 : decode cX0_fallIn 32 = .ok (.aload_n 0, 1) := by decide +kernel
theorem dX0_fallIn_33 : decode cX0_fallIn 33 = .ok (.getfield 15, 3) := by decide +kernel
theorem dX0_fallIn_36 : decode cX0_fallIn 36 = .ok (.iload_n 1, 1) := by decide +kernel
theorem dX0_fallIn_37 : decode cX0_fallIn 37 = .ok (.iconst 0, 1) := by decide +kernel
theorem dX0_fallIn_38 : decode cX0_fallIn 38 = .ok (.aload_n 0, 1) := by decide +kernel
theorem dX0_fallIn_39 : decode cX0_fallIn 39 = .ok (.getfield 15, 3) := by decide +kernel
theorem dX0_fallIn_42 : decode cX0_fallIn 42 = .ok (.iload_n 1, 1) := by decide +kernel
theorem dX0_fallIn_43 : decode cX0_fallIn 43 = .ok (.iaload, 1) := by decide +kernel
theorem dX0_fallIn_44 : decode cX0_fallIn 44 = .ok (.bipush 8, 2) := by decide +kernel
theorem dX0_fallIn_46 : decode cX0_fallIn 46 = .ok (.isub, 1) := by decide +kernel
theorem dX0_fallIn_47 : decode cX0_fallIn 47 = .ok (.invokestatic 97, 3) := by decide +kernel
theorem dX0_fallIn_50 : decode cX0_fallIn 50 = .ok (.iastore, 1) := by decide +kernel
theorem dX0_fallIn_51 : decode cX0_fallIn 51 = .ok (.aload_n 0, 1) := by decide +kernel
theorem dX0_fallIn_52 : decode cX0_fallIn 52 = .ok (.getfield 15, 3) := by decide +kernel
theorem dX0_fallIn_55 : decode cX0_fallIn 55 = .ok (.iload_n 1, 1) := by decide +kernel
theorem dX0_fallIn_56 : decode cX0_fallIn 56 = .ok (.iaload, 1) := by decide +kernel
theorem dX0_fallIn_57 : decode cX0_fallIn 57 = .ok (.ifCond .ne 13, 3) := by decide +kernel
theorem dX0_fallIn_60 : decode cX0_fallIn 60 = .ok (.aload_n 0, 1) := by decide +kernel
theorem dX0_fallIn_61 : decode cX0_fallIn 61 = .ok (.dup, 1) := by decide +kernel
theorem dX0_fallIn_62 : decode cX0_fallIn 62 = .ok (.getfield 46, 3) := by decide +kernel
theorem dX0_fallIn_65 : decode cX0_fallIn 65 = .ok (.iconst 1, 1) := by decide +kernel
theorem dX0_fallIn_66 : decode cX0_fallIn 66 = .ok (.iadd, 1) := by decide +kernel
theorem dX0_fallIn_67 : decode cX0_fallIn 67 = .ok (.putfield 46, 3) := by decide +kernel
theorem dX0_fallIn_70 : decode cX0_fallIn 70 = .ok (.return_, 1) := by decide +kernel
theorem dX0_valueOf_0 : decode cX0_valueOf 0 = .ok (.iload_n 2, 1) := by decide +kernel
theorem dX0_valueOf_1 : decode cX0_valueOf 1 = .ok (.tableswitch 92 0 6 #[43, 50, 57, 64, 71, 78, 85], 43) := by decide +kernel
theorem dX0_valueOf_44 : decode cX0_valueOf 44 = .ok (.aload_n 0, 1) := by decide +kernel
theorem dX0_valueOf_45 : decode cX0_valueOf 45 = .ok (.getfield 9, 3) := by decide +kernel
theorem dX0_valueOf_48 : decode cX0_valueOf 48 = .ok (.iload_n 1, 1) := by decide +kernel
theorem dX0_valueOf_49 : decode cX0_valueOf 49 = .ok (.iaload, 1) := by decide +kernel
theorem dX0_valueOf_50 : decode cX0_valueOf 50 = .ok (.ireturn, 1) := by decide +kernel
theorem dX0_valueOf_51 : decode cX0_valueOf 51 = .ok (.aload_n 0, 1) := by decide +kernel
theorem dX0_valueOf_52 : decode cX0_valueOf 52 = .ok (.getfield 15, 3) := by decide +kernel
theorem dX0_valueOf_55 : decode cX0_valueOf 55 = .ok (.iload_n 1, 1) := by decide +kernel
theorem dX0_valueOf_56 : decode cX0_valueOf 56 = .ok (.iaload, 1) := by decide +kernel
theorem dX0_valueOf_57 : decode cX0_valueOf 57 = .ok (.ireturn, 1) := by decide +kernel
theorem dX0_valueOf_58 : decode cX0_valueOf 58 = .ok (.aload_n 0, 1) := by decide +kernel
theorem dX0_valueOf_59 : decode cX0_valueOf 59 = .ok (.getfield 18, 3) := by decide +kernel
theorem dX0_valueOf_62 : decode cX0_valueOf 62 = .ok (.iload_n 1, 1) := by decide +kernel
theorem dX0_valueOf_63 : decode cX0_valueOf 63 = .ok (.iaload, 1) := by decide +kernel
theorem dX0_valueOf_64 : decode cX0_valueOf 64 = .ok (.ireturn, 1) := by decide +kernel
theorem dX0_valueOf_65 : decode cX0_valueOf 65 = .ok (.aload_n 0, 1) := by decide +kernel
theorem dX0_valueOf_66 : decode cX0_valueOf 66 = .ok (.getfield 21, 3) := by decide +kernel
theorem dX0_valueOf_69 : decode cX0_valueOf 69 = .ok (.iload_n 1, 1) := by decide +kernel
theorem dX0_valueOf_70 : decode cX0_valueOf 70 = .ok (.iaload, 1) := by decide +kernel
theorem dX0_valueOf_71 : decode cX0_valueOf 71 = .ok (.ireturn, 1) := by decide +kernel
theorem dX0_valueOf_72 : decode cX0_valueOf 72 = .ok (.aload_n 0, 1) := by decide +kernel
theorem dX0_valueOf_73 : decode cX0_valueOf 73 = .ok (.getfield 24, 3) := by decide +kernel
theorem dX0_valueOf_76 : decode cX0_valueOf 76 = .ok (.iload_n 1, 1) := by decide +kernel
theorem dX0_valueOf_77 : decode cX0_valueOf 77 = .ok (.iaload, 1) := by decide +kernel
theorem dX0_valueOf_78 : decode cX0_valueOf 78 = .ok (.ireturn, 1) := by decide +kernel
theorem dX0_valueOf_79 : decode cX0_valueOf 79 = .ok (.aload_n 0, 1) := by decide +kernel
theorem dX0_valueOf_80 : decode cX0_valueOf 80 = .ok (.getfield 27, 3) := by decide +kernel
theorem dX0_valueOf_83 : decode cX0_valueOf 83 = .ok (.iload_n 1, 1) := by decide +kernel
theorem dX0_valueOf_84 : decode cX0_valueOf 84 = .ok (.iaload, 1) := by decide +kernel
theorem dX0_valueOf_85 : decode cX0_valueOf 85 = .ok (.ireturn, 1) := by decide +kernel
theorem dX0_valueOf_86 : decode cX0_valueOf 86 = .ok (.aload_n 0, 1) := by decide +kernel
theorem dX0_valueOf_87 : decode cX0_valueOf 87 = .ok (.getfield 30, 3) := by decide +kernel
theorem dX0_valueOf_90 : decode cX0_valueOf 90 = .ok (.iload_n 1, 1) := by decide +kernel
theorem dX0_valueOf_91 : decode cX0_valueOf 91 = .ok (.iaload, 1) := by decide +kernel
theorem dX0_valueOf_92 : decode cX0_valueOf 92 = .ok (.ireturn, 1) := by decide +kernel
theorem dX0_valueOf_93 : decode cX0_valueOf 93 = .ok (.aload_n 0, 1) := by decide +kernel
theorem dX0_valueOf_94 : decode cX0_valueOf 94 = .ok (.getfield 33, 3) := by decide +kernel
theorem dX0_valueOf_97 : decode cX0_valueOf 97 = .ok (.iload_n 1, 1) := by decide +kernel
theorem dX0_valueOf_98 : decode cX0_valueOf 98 = .ok (.iaload, 1) := by decide +kernel
theorem dX0_valueOf_99 : decode cX0_valueOf 99 = .ok (.ireturn, 1) := by decide +kernel
theorem dX0_tunnels_0 : decode cX0_tunnels 0 = .ok (.iconst 0, 1) := by decide +kernel
theorem dX0_tunnels_1 : decode cX0_tunnels 1 = .ok (.istore_n 1, 1) := by decide +kernel
theorem dX0_tunnels_2 : decode cX0_tunnels 2 = .ok (.iconst 0, 1) := by decide +kernel
theorem dX0_tunnels_3 : decode cX0_tunnels 3 = .ok (.istore_n 2, 1) := by decide +kernel
theorem dX0_tunnels_4 : decode cX0_tunnels 4 = .ok (.iload_n 2, 1) := by decide +kernel
theorem dX0_tunnels_5 : decode cX0_tunnels 5 = .ok (.sipush 144, 3) := by decide +kernel
theorem dX0_tunnels_8 : decode cX0_tunnels 8 = .ok (.if_icmp .ge 18, 3) := by decide +kernel
theorem dX0_tunnels_11 : decode cX0_tunnels 11 = .ok (.iload_n 1, 1) := by decide +kernel
theorem dX0_tunnels_12 : decode cX0_tunnels 12 = .ok (.aload_n 0, 1) := by decide +kernel
theorem dX0_tunnels_13 : decode cX0_tunnels 13 = .ok (.getfield 18, 3) := by decide +kernel
theorem dX0_tunnels_16 : decode cX0_tunnels 16 = .ok (.iload_n 2, 1) := by decide +kernel
theorem dX0_tunnels_17 : decode cX0_tunnels 17 = .ok (.iaload, 1) := by decide +kernel
theorem dX0_tunnels_18 : decode cX0_tunnels 18 = .ok (.iadd, 1) := by decide +kernel
theorem dX0_tunnels_19 : decode cX0_tunnels 19 = .ok (.istore_n 1, 1) := by decide +kernel
theorem dX0_tunnels_20 : decode cX0_tunnels 20 = .ok (.iinc 2 1, 3) := by decide +kernel
theorem dX0_tunnels_23 : decode cX0_tunnels 23 = .ok (.goto (-19), 3) := by decide +kernel
theorem dX0_tunnels_26 : decode cX0_tunnels 26 = .ok (.iload_n 1, 1) := by decide +kernel
theorem dX0_tunnels_27 : decode cX0_tunnels 27 = .ok (.ireturn, 1) := by decide +kernel
theorem dX0_allSmoke_0 : decode cX0_allSmoke 0 = .ok (.iconst 0, 1) := by decide +kernel
theorem dX0_allSmoke_1 : decode cX0_allSmoke 1 = .ok (.istore_n 1, 1) := by decide +kernel
theorem dX0_allSmoke_2 : decode cX0_allSmoke 2 = .ok (.iconst 0, 1) := by decide +kernel
theorem dX0_allSmoke_3 : decode cX0_allSmoke 3 = .ok (.istore_n 2, 1) := by decide +kernel
theorem dX0_allSmoke_4 : decode cX0_allSmoke 4 = .ok (.iload_n 2, 1) := by decide +kernel
theorem dX0_allSmoke_5 : decode cX0_allSmoke 5 = .ok (.sipush 144, 3) := by decide +kernel
theorem dX0_allSmoke_8 : decode cX0_allSmoke 8 = .ok (.if_icmp .ge 18, 3) := by decide +kernel
theorem dX0_allSmoke_11 : decode cX0_allSmoke 11 = .ok (.iload_n 1, 1) := by decide +kernel
theorem dX0_allSmoke_12 : decode cX0_allSmoke 12 = .ok (.aload_n 0, 1) := by decide +kernel
theorem dX0_allSmoke_13 : decode cX0_allSmoke 13 = .ok (.getfield 27, 3) := by decide +kernel
theorem dX0_allSmoke_16 : decode cX0_allSmoke 16 = .ok (.iload_n 2, 1) := by decide +kernel
theorem dX0_allSmoke_17 : decode cX0_allSmoke 17 = .ok (.iaload, 1) := by decide +kernel
theorem dX0_allSmoke_18 : decode cX0_allSmoke 18 = .ok (.iadd, 1) := by decide +kernel
theorem dX0_allSmoke_19 : decode cX0_allSmoke 19 = .ok (.istore_n 1, 1) := by decide +kernel
theorem dX0_allSmoke_20 : decode cX0_allSmoke 20 = .ok (.iinc 2 1, 3) := by decide +kernel
theorem dX0_allSmoke_23 : decode cX0_allSmoke 23 = .ok (.goto (-19), 3) := by decide +kernel
theorem dX0_allSmoke_26 : decode cX0_allSmoke 26 = .ok (.iload_n 1, 1) := by decide +kernel
theorem dX0_allSmoke_27 : decode cX0_allSmoke 27 = .ok (.ireturn, 1) := by decide +kernel
theorem dX0_wallsStanding_0 : decode cX0_wallsStanding 0 = .ok (.iconst 0, 1) := by decide +kernel
theorem dX0_wallsStanding_1 : decode cX0_wallsStanding 1 = .ok (.istore_n 1, 1) := by decide +kernel
theorem dX0_wallsStanding_2 : decode cX0_wallsStanding 2 = .ok (.iconst 0, 1) := by decide +kernel
theorem dX0_wallsStanding_3 : decode cX0_wallsStanding 3 = .ok (.istore_n 2, 1) := by decide +kernel
theorem dX0_wallsStanding_4 : decode cX0_wallsStanding 4 = .ok (.iload_n 2, 1) := by decide +kernel
theorem dX0_wallsStanding_5 : decode cX0_wallsStanding 5 = .ok (.sipush 144, 3) := by decide +kernel
theorem dX0_wallsStanding_8 : decode cX0_wallsStanding 8 = .ok (.if_icmp .ge 26, 3) := by decide +kernel
theorem dX0_wallsStanding_11 : decode cX0_wallsStanding 11 = .ok (.iload_n 1, 1) := by decide +kernel
theorem dX0_wallsStanding_12 : decode cX0_wallsStanding 12 = .ok (.aload_n 0, 1) := by decide +kernel
theorem dX0_wallsStanding_13 : decode cX0_wallsStanding 13 = .ok (.getfield 15, 3) := by decide +kernel
theorem dX0_wallsStanding_16 : decode cX0_wallsStanding 16 = .ok (.iload_n 2, 1) := by decide +kernel
theorem dX0_wallsStanding_17 : decode cX0_wallsStanding 17 = .ok (.iaload, 1) := by decide +kernel
theorem dX0_wallsStanding_18 : decode cX0_wallsStanding 18 = .ok (.ifCond .le 7, 3) := by decide +kernel
theorem dX0_wallsStanding_21 : decode cX0_wallsStanding 21 = .ok (.iconst 1, 1) := by decide +kernel
theorem dX0_wallsStanding_22 : decode cX0_wallsStanding 22 = .ok (.goto 4, 3) := by decide +kernel
theorem dX0_wallsStanding_25 : decode cX0_wallsStanding 25 = .ok (.iconst 0, 1) := by decide +kernel
theorem dX0_wallsStanding_26 : decode cX0_wallsStanding 26 = .ok (.iadd, 1) := by decide +kernel
theorem dX0_wallsStanding_27 : decode cX0_wallsStanding 27 = .ok (.istore_n 1, 1) := by decide +kernel
theorem dX0_wallsStanding_28 : decode cX0_wallsStanding 28 = .ok (.iinc 2 1, 3) := by decide +kernel
theorem dX0_wallsStanding_31 : decode cX0_wallsStanding 31 = .ok (.goto (-27), 3) := by decide +kernel
theorem dX0_wallsStanding_34 : decode cX0_wallsStanding 34 = .ok (.iload_n 1, 1) := by decide +kernel
theorem dX0_wallsStanding_35 : decode cX0_wallsStanding 35 = .ok (.ireturn, 1) := by decide +kernel
theorem dX0_wallsFallen_0 : decode cX0_wallsFallen 0 = .ok (.iconst 0, 1) := by decide +kernel
theorem dX0_wallsFallen_1 : decode cX0_wallsFallen 1 = .ok (.istore_n 1, 1) := by decide +kernel
theorem dX0_wallsFallen_2 : decode cX0_wallsFallen 2 = .ok (.iconst 0, 1) := by decide +kernel
theorem dX0_wallsFallen_3 : decode cX0_wallsFallen 3 = .ok (.istore_n 2, 1) := by decide +kernel
theorem dX0_wallsFallen_4 : decode cX0_wallsFallen 4 = .ok (.iload_n 2, 1) := by decide +kernel
theorem dX0_wallsFallen_5 : decode cX0_wallsFallen 5 = .ok (.sipush 144, 3) := by decide +kernel
theorem dX0_wallsFallen_8 : decode cX0_wallsFallen 8 = .ok (.if_icmp .ge 26, 3) := by decide +kernel
theorem dX0_wallsFallen_11 : decode cX0_wallsFallen 11 = .ok (.iload_n 1, 1) := by decide +kernel
theorem dX0_wallsFallen_12 : decode cX0_wallsFallen 12 = .ok (.aload_n 0, 1) := by decide +kernel
theorem dX0_wallsFallen_13 : decode cX0_wallsFallen 13 = .ok (.getfield 15, 3) := by decide +kernel
theorem dX0_wallsFallen_16 : decode cX0_wallsFallen 16 = .ok (.iload_n 2, 1) := by decide +kernel
theorem dX0_wallsFallen_17 : decode cX0_wallsFallen 17 = .ok (.iaload, 1) := by decide +kernel
theorem dX0_wallsFallen_18 : decode cX0_wallsFallen 18 = .ok (.ifCond .ne 7, 3) := by decide +kernel
theorem dX0_wallsFallen_21 : decode cX0_wallsFallen 21 = .ok (.iconst 1, 1) := by decide +kernel
theorem dX0_wallsFallen_22 : decode cX0_wallsFallen 22 = .ok (.goto 4, 3) := by decide +kernel
theorem dX0_wallsFallen_25 : decode cX0_wallsFallen 25 = .ok (.iconst 0, 1) := by decide +kernel
theorem dX0_wallsFallen_26 : decode cX0_wallsFallen 26 = .ok (.iadd, 1) := by decide +kernel
theorem dX0_wallsFallen_27 : decode cX0_wallsFallen 27 = .ok (.istore_n 1, 1) := by decide +kernel
theorem dX0_wallsFallen_28 : decode cX0_wallsFallen 28 = .ok (.iinc 2 1, 3) := by decide +kernel
theorem dX0_wallsFallen_31 : decode cX0_wallsFallen 31 = .ok (.goto (-27), 3) := by decide +kernel
theorem dX0_wallsFallen_34 : decode cX0_wallsFallen 34 = .ok (.iload_n 1, 1) := by decide +kernel
theorem dX0_wallsFallen_35 : decode cX0_wallsFallen 35 = .ok (.ireturn, 1) := by decide +kernel
set_option maxRecDepth 20000 in
theorem ggX1_init_X0_init : GoodIn wsX1_init wsX0_init := goodIn_r _ [16, 17, 2, 3, 18, 19, 20, 21, 22, 23, 24, 25, 26, 27, 28, 29, 30, 31, 32, 33, 34, 54, 55, 56, 57, 58, 59, 60, 61, 62, 63, 64, 65] (by decide +kernel) (by decide +kernel)
set_option maxRecDepth 20000 in
theorem gX1_init_X0_init : GoodIn wsX1_init (wsX0_init) := ggX1_init_X0_init
set_option maxRecDepth 20000 in
theorem ggX1_init_X3_init : GoodIn wsX1_init wsX3_init := goodIn_r _ [36, 37, 2, 3, 38, 39, 40, 41, 42, 43, 44, 45, 46, 47, 48, 49, 50, 18, 51, 52, 53, 70, 71, 72, 73, 74, 75, 76, 77, 78, 79, 80, 81, 82, 83, 84, 85] (by decide +kernel) (by decide +kernel)
set_option maxRecDepth 20000 in
theorem gX1_init_X3_init_n31 : GoodIn wsX1_init (wsX3_init) := ggX1_init_X3_init
theorem dX1_init_0 : decode cX1_init 0 = .ok (.aload_n 0, 1) := by decide +kernel
theorem dX1_init_1 : decode cX1_init 1 = .ok (.invokespecial 3, 3) := by decide +kernel
theorem dX1_init_4 : decode cX1_init 4 = .ok (.aload_n 0, 1) := by decide +kernel
theorem dX1_init_5 : decode cX1_init 5 = .ok (.new 9, 3) := by decide +kernel
theorem dX1_init_8 : decode cX1_init 8 = .ok (.dup, 1) := by decide +kernel
theorem dX1_init_9 : decode cX1_init 9 = .ok (.invokespecial 11, 3) := by decide +kernel
theorem dX1_init_12 : decode cX1_init 12 = .ok (.putfield 12, 3) := by decide +kernel
theorem dX1_init_15 : decode cX1_init 15 = .ok (.aload_n 0, 1) := by decide +kernel
theorem dX1_init_16 : decode cX1_init 16 = .ok (.bipush 8, 2) := by decide +kernel
theorem dX1_init_18 : decode cX1_init 18 = .ok (.anewarray 18, 3) := by decide +kernel
theorem dX1_init_21 : decode cX1_init 21 = .ok (.putfield 20, 3) := by decide +kernel
theorem dX1_init_24 : decode cX1_init 24 = .ok (.aload_n 0, 1) := by decide +kernel
theorem dX1_init_25 : decode cX1_init 25 = .ok (.iconst 0, 1) := by decide +kernel
theorem dX1_init_26 : decode cX1_init 26 = .ok (.putfield 24, 3) := by decide +kernel
theorem dX1_init_29 : decode cX1_init 29 = .ok (.aload_n 0, 1) := by decide +kernel
theorem dX1_init_30 : decode cX1_init 30 = .ok (.iconst 0, 1) := by decide +kernel
theorem dX1_init_31 : decode cX1_init 31 = .ok (.putfield 28, 3) := by decide +kernel
theorem dX1_init_34 : decode cX1_init 34 = .ok (.iconst 0, 1) := by decide +kernel
theorem dX1_init_35 : decode cX1_init 35 = .ok (.istore_n 1, 1) := by decide +kernel
theorem dX1_init_36 : decode cX1_init 36 = .ok (.iload_n 1, 1) := by decide +kernel
theorem dX1_init_37 : decode cX1_init 37 = .ok (.bipush 8, 2) := by decide +kernel
theorem dX1_init_39 : decode cX1_init 39 = .ok (.if_icmp .ge 22, 3) := by decide +kernel
theorem dX1_init_42 : decode cX1_init 42 = .ok (.aload_n 0, 1) := by decide +kernel
theorem dX1_init_43 : decode cX1_init 43 = .ok (.getfield 20, 3) := by decide +kernel
theorem dX1_init_46 : decode cX1_init 46 = .ok (.iload_n 1, 1) := by decide +kernel
theorem dX1_init_47 : decode cX1_init 47 = .ok (.new 18, 3) := by decide +kernel
theorem dX1_init_50 : decode cX1_init 50 = .ok (.dup, 1) := by decide +kernel
theorem dX1_init_51 : decode cX1_init 51 = .ok (.invokespecial 31, 3) := by decide +kernel
theorem dX1_init_54 : decode cX1_init 54 = .ok (.aastore, 1) := by decide +kernel
theorem dX1_init_55 : decode cX1_init 55 = .ok (.iinc 1 1, 3) := by decide +kernel
theorem dX1_init_58 : decode cX1_init 58 = .ok (.goto (-22), 3) := by decide +kernel
theorem dX1_init_61 : decode cX1_init 61 = .ok (.return_, 1) := by decide +kernel
set_option maxRecDepth 20000 in
theorem ggX1_copyFrom_X0_copyFrom : GoodIn wsX1_copyFrom wsX0_copyFrom := goodIn_r _ [9, 10, 11, 12, 13, 14, 15, 16, 17, 18, 19, 20, 21, 22, 23, 50, 51, 52, 53, 54, 55, 56, 57, 58, 59, 60, 61] (by decide +kernel) (by decide +kernel)
set_option maxRecDepth 20000 in
theorem gX1_copyFrom_X0_copyFrom : GoodIn wsX1_copyFrom (wsV RX1 32 RX0 yX0_copyFrom wsX0_copyFrom) := goodIn_app (goodIn_of _ (by decide +kernel)) ggX1_copyFrom_X0_copyFrom
set_option maxRecDepth 20000 in
theorem ggX1_copyFrom_X3_copyFrom : GoodIn wsX1_copyFrom wsX3_copyFrom := goodIn_r _ [28, 29, 30, 31, 32, 33, 34, 35, 36, 37, 38, 39, 40, 41, 42, 43, 12, 13, 14, 44, 45, 62, 63, 64, 65, 66, 67, 68, 69, 70, 71, 72, 73, 74, 75, 76, 77] (by decide +kernel) (by decide +kernel)
set_option maxRecDepth 20000 in
theorem gX1_copyFrom_X3_copyFrom : GoodIn wsX1_copyFrom (wsV RX1 36 RX3 yX3_copyFrom wsX3_copyFrom) := goodIn_app (goodIn_of _ (by decide +kernel)) ggX1_copyFrom_X3_copyFrom
theorem dX1_copyFrom_0 : decode cX1_copyFrom 0 = .ok (.aload_n 0, 1) := by decide +kernel
theorem dX1_copyFrom_1 : decode cX1_copyFrom 1 = .ok (.getfield 12, 3) := by decide +kernel
theorem dX1_copyFrom_4 : decode cX1_copyFrom 4 = .ok (.aload_n 1, 1) := by decide +kernel
theorem dX1_copyFrom_5 : decode cX1_copyFrom 5 = .ok (.getfield 12, 3) := by decide +kernel
theorem dX1_copyFrom_8 : decode cX1_copyFrom 8 = .ok (.invokevirtual 32, 3) := by decide +kernel
theorem dX1_copyFrom_11 : decode cX1_copyFrom 11 = .ok (.aload_n 0, 1) := by decide +kernel
theorem dX1_copyFrom_12 : decode cX1_copyFrom 12 = .ok (.aload_n 1, 1) := by decide +kernel
theorem dX1_copyFrom_13 : decode cX1_copyFrom 13 = .ok (.getfield 24, 3) := by decide +kernel
theorem dX1_copyFrom_16 : decode cX1_copyFrom 16 = .ok (.putfield 24, 3) := by decide +kernel
theorem dX1_copyFrom_19 : decode cX1_copyFrom 19 = .ok (.aload_n 0, 1) := by decide +kernel
theorem dX1_copyFrom_20 : decode cX1_copyFrom 20 = .ok (.aload_n 1, 1) := by decide +kernel
theorem dX1_copyFrom_21 : decode cX1_copyFrom 21 = .ok (.getfield 28, 3) := by decide +kernel
theorem dX1_copyFrom_24 : decode cX1_copyFrom 24 = .ok (.putfield 28, 3) := by decide +kernel
theorem dX1_copyFrom_27 : decode cX1_copyFrom 27 = .ok (.iconst 0, 1) := by decide +kernel
theorem dX1_copyFrom_28 : decode cX1_copyFrom 28 = .ok (.istore_n 2, 1) := by decide +kernel
theorem dX1_copyFrom_29 : decode cX1_copyFrom 29 = .ok (.iload_n 2, 1) := by decide +kernel
theorem dX1_copyFrom_30 : decode cX1_copyFrom 30 = .ok (.aload_n 0, 1) := by decide +kernel
theorem dX1_copyFrom_31 : decode cX1_copyFrom 31 = .ok (.getfield 24, 3) := by decide +kernel
theorem dX1_copyFrom_34 : decode cX1_copyFrom 34 = .ok (.if_icmp .ge 24, 3) := by decide +kernel
theorem dX1_copyFrom_37 : decode cX1_copyFrom 37 = .ok (.aload_n 0, 1) := by decide +kernel
theorem dX1_copyFrom_38 : decode cX1_copyFrom 38 = .ok (.getfield 20, 3) := by decide +kernel
theorem dX1_copyFrom_41 : decode cX1_copyFrom 41 = .ok (.iload_n 2, 1) := by decide +kernel
theorem dX1_copyFrom_42 : decode cX1_copyFrom 42 = .ok (.aaload, 1) := by decide +kernel
theorem dX1_copyFrom_43 : decode cX1_copyFrom 43 = .ok (.aload_n 1, 1) := by decide +kernel
theorem dX1_copyFrom_44 : decode cX1_copyFrom 44 = .ok (.getfield 20, 3) := by decide +kernel
theorem dX1_copyFrom_47 : decode cX1_copyFrom 47 = .ok (.iload_n 2, 1) := by decide +kernel
theorem dX1_copyFrom_48 : decode cX1_copyFrom 48 = .ok (.aaload, 1) := by decide +kernel
theorem dX1_copyFrom_49 : decode cX1_copyFrom 49 = .ok (.invokevirtual 36, 3) := by decide +kernel
theorem dX1_copyFrom_52 : decode cX1_copyFrom 52 = .ok (.iinc 2 1, 3) := by decide +kernel
theorem dX1_copyFrom_55 : decode cX1_copyFrom 55 = .ok (.goto (-26), 3) := by decide +kernel
theorem dX1_copyFrom_58 : decode cX1_copyFrom 58 = .ok (.return_, 1) := by decide +kernel
theorem dX1_hasTeam_0 : decode cX1_hasTeam 0 = .ok (.iload_n 1, 1) := by decide +kernel
theorem dX1_hasTeam_1 : decode cX1_hasTeam 1 = .ok (.ifCond .lt 15, 3) := by decide +kernel
theorem dX1_hasTeam_4 : decode cX1_hasTeam 4 = .ok (.iload_n 1, 1) := by decide +kernel
theorem dX1_hasTeam_5 : decode cX1_hasTeam 5 = .ok (.aload_n 0, 1) := by decide +kernel
theorem dX1_hasTeam_6 : decode cX1_hasTeam 6 = .ok (.getfield 24, 3) := by decide +kernel
theorem dX1_hasTeam_9 : decode cX1_hasTeam 9 = .ok (.if_icmp .ge 7, 3) := by decide +kernel
theorem dX1_hasTeam_12 : decode cX1_hasTeam 12 = .ok (.iconst 1, 1) := by decide +kernel
theorem dX1_hasTeam_13 : decode cX1_hasTeam 13 = .ok (.goto 4, 3) := by decide +kernel
theorem dX1_hasTeam_16 : decode cX1_hasTeam 16 = .ok (.iconst 0, 1) := by decide +kernel
theorem dX1_hasTeam_17 : decode cX1_hasTeam 17 = .ok (.ireturn, 1) := by decide +kernel
set_option maxRecDepth 20000 in
theorem ggX1_teamsLeft_X3_isGone : GoodIn wsX1_teamsLeft wsX3_isGone := goodIn_r _ [8, 9, 14, 15, 16, 17, 18, 19, 20, 21, 22, 23, 24, 25, 26, 27, 28, 29] (by decide +kernel) (by decide +kernel)
set_option maxRecDepth 20000 in
theorem gX1_teamsLeft_X3_isGone : GoodIn wsX1_teamsLeft (wsV RX1 42 RX3 yX3_isGone wsX3_isGone) := goodIn_app (goodIn_of _ (by decide +kernel)) ggX1_teamsLeft_X3_isGone
theorem dX1_teamsLeft_0 : decode cX1_teamsLeft 0 = .ok (.iconst 0, 1) := by decide +kernel
theorem dX1_teamsLeft_1 : decode cX1_teamsLeft 1 = .ok (.istore_n 2, 1) := by decide +kernel
theorem dX1_teamsLeft_2 : decode cX1_teamsLeft 2 = .ok (.iconst 0, 1) := by decide +kernel
theorem dX1_teamsLeft_3 : decode cX1_teamsLeft 3 = .ok (.istore_n 3, 1) := by decide +kernel
theorem dX1_teamsLeft_4 : decode cX1_teamsLeft 4 = .ok (.iload_n 3, 1) := by decide +kernel
theorem dX1_teamsLeft_5 : decode cX1_teamsLeft 5 = .ok (.aload_n 0, 1) := by decide +kernel
theorem dX1_teamsLeft_6 : decode cX1_teamsLeft 6 = .ok (.getfield 24, 3) := by decide +kernel
theorem dX1_teamsLeft_9 : decode cX1_teamsLeft 9 = .ok (.if_icmp .ge 37, 3) := by decide +kernel
theorem dX1_teamsLeft_12 : decode cX1_teamsLeft 12 = .ok (.aload_n 0, 1) := by decide +kernel
theorem dX1_teamsLeft_13 : decode cX1_teamsLeft 13 = .ok (.getfield 20, 3) := by decide +kernel
theorem dX1_teamsLeft_16 : decode cX1_teamsLeft 16 = .ok (.iload_n 3, 1) := by decide +kernel
theorem dX1_teamsLeft_17 : decode cX1_teamsLeft 17 = .ok (.aaload, 1) := by decide +kernel
theorem dX1_teamsLeft_18 : decode cX1_teamsLeft 18 = .ok (.getfield 39, 3) := by decide +kernel
theorem dX1_teamsLeft_21 : decode cX1_teamsLeft 21 = .ok (.iload_n 1, 1) := by decide +kernel
theorem dX1_teamsLeft_22 : decode cX1_teamsLeft 22 = .ok (.if_icmp .ne 18, 3) := by decide +kernel
theorem dX1_teamsLeft_25 : decode cX1_teamsLeft 25 = .ok (.aload_n 0, 1) := by decide +kernel
theorem dX1_teamsLeft_26 : decode cX1_teamsLeft 26 = .ok (.getfield 20, 3) := by decide +kernel
theorem dX1_teamsLeft_29 : decode cX1_teamsLeft 29 = .ok (.iload_n 3, 1) := by decide +kernel
theorem dX1_teamsLeft_30 : decode cX1_teamsLeft 30 = .ok (.aaload, 1) := by decide +kernel
theorem dX1_teamsLeft_31 : decode cX1_teamsLeft 31 = .ok (.invokevirtual 42, 3) := by decide +kernel
theorem dX1_teamsLeft_34 : decode cX1_teamsLeft 34 = .ok (.ifCond .ne 6, 3) := by decide +kernel
theorem dX1_teamsLeft_37 : decode cX1_teamsLeft 37 = .ok (.iinc 2 1, 3) := by decide +kernel
theorem dX1_teamsLeft_40 : decode cX1_teamsLeft 40 = .ok (.iinc 3 1, 3) := by decide +kernel
theorem dX1_teamsLeft_43 : decode cX1_teamsLeft 43 = .ok (.goto (-39), 3) := by decide +kernel
theorem dX1_teamsLeft_46 : decode cX1_teamsLeft 46 = .ok (.iload_n 2, 1) := by decide +kernel
theorem dX1_teamsLeft_47 : decode cX1_teamsLeft 47 = .ok (.ireturn, 1) := by decide +kernel
theorem dX1_missedOrders_0 : decode cX1_missedOrders 0 = .ok (.iconst 0, 1) := by decide +kernel
theorem dX1_missedOrders_1 : decode cX1_missedOrders 1 = .ok (.istore_n 1, 1) := by decide +kernel
theorem dX1_missedOrders_2 : decode cX1_missedOrders 2 = .ok (.iconst 0, 1) := by decide +kernel
theorem dX1_missedOrders_3 : decode cX1_missedOrders 3 = .ok (.istore_n 2, 1) := by decide +kernel
theorem dX1_missedOrders_4 : decode cX1_missedOrders 4 = .ok (.iload_n 2, 1) := by decide +kernel
theorem dX1_missedOrders_5 : decode cX1_missedOrders 5 = .ok (.aload_n 0, 1) := by decide +kernel
theorem dX1_missedOrders_6 : decode cX1_missedOrders 6 = .ok (.getfield 24, 3) := by decide +kernel
theorem dX1_missedOrders_9 : decode cX1_missedOrders 9 = .ok (.if_icmp .ge 21, 3) := by decide +kernel
theorem dX1_missedOrders_12 : decode cX1_missedOrders 12 = .ok (.iload_n 1, 1) := by decide +kernel
theorem dX1_missedOrders_13 : decode cX1_missedOrders 13 = .ok (.aload_n 0, 1) := by decide +kernel
theorem dX1_missedOrders_14 : decode cX1_missedOrders 14 = .ok (.getfield 20, 3) := by decide +kernel
theorem dX1_missedOrders_17 : decode cX1_missedOrders 17 = .ok (.iload_n 2, 1) := by decide +kernel
theorem dX1_missedOrders_18 : decode cX1_missedOrders 18 = .ok (.aaload, 1) := by decide +kernel
theorem dX1_missedOrders_19 : decode cX1_missedOrders 19 = .ok (.getfield 46, 3) := by decide +kernel
theorem dX1_missedOrders_22 : decode cX1_missedOrders 22 = .ok (.iadd, 1) := by decide +kernel
theorem dX1_missedOrders_23 : decode cX1_missedOrders 23 = .ok (.istore_n 1, 1) := by decide +kernel
theorem dX1_missedOrders_24 : decode cX1_missedOrders 24 = .ok (.iinc 2 1, 3) := by decide +kernel
theorem dX1_missedOrders_27 : decode cX1_missedOrders 27 = .ok (.goto (-23), 3) := by decide +kernel
theorem dX1_missedOrders_30 : decode cX1_missedOrders 30 = .ok (.iload_n 1, 1) := by decide +kernel
theorem dX1_missedOrders_31 : decode cX1_missedOrders 31 = .ok (.ireturn, 1) := by decide +kernel
set_option maxRecDepth 20000 in
theorem ggX1_sideAt_X3_isGone : GoodIn wsX1_sideAt wsX3_isGone := goodIn_r _ [9, 10, 15, 16, 17, 18, 19, 20, 21, 22, 23, 24, 25, 26, 27, 28, 29, 30] (by decide +kernel) (by decide +kernel)
set_option maxRecDepth 20000 in
theorem gX1_sideAt_X3_isGone : GoodIn wsX1_sideAt (wsV RX1 42 RX3 yX3_isGone wsX3_isGone) := goodIn_app (goodIn_of _ (by decide +kernel)) ggX1_sideAt_X3_isGone
theorem dX1_sideAt_0 : decode cX1_sideAt 0 = .ok (.iconst 0, 1) := by decide +kernel
theorem dX1_sideAt_1 : decode cX1_sideAt 1 = .ok (.istore_n 2, 1) := by decide +kernel
theorem dX1_sideAt_2 : decode cX1_sideAt 2 = .ok (.iload_n 2, 1) := by decide +kernel
theorem dX1_sideAt_3 : decode cX1_sideAt 3 = .ok (.aload_n 0, 1) := by decide +kernel
theorem dX1_sideAt_4 : decode cX1_sideAt 4 = .ok (.getfield 24, 3) := by decide +kernel
theorem dX1_sideAt_7 : decode cX1_sideAt 7 = .ok (.if_icmp .ge 44, 3) := by decide +kernel
theorem dX1_sideAt_10 : decode cX1_sideAt 10 = .ok (.aload_n 0, 1) := by decide +kernel
theorem dX1_sideAt_11 : decode cX1_sideAt 11 = .ok (.getfield 20, 3) := by decide +kernel
theorem dX1_sideAt_14 : decode cX1_sideAt 14 = .ok (.iload_n 2, 1) := by decide +kernel
theorem dX1_sideAt_15 : decode cX1_sideAt 15 = .ok (.aaload, 1) := by decide +kernel
theorem dX1_sideAt_16 : decode cX1_sideAt 16 = .ok (.getfield 49, 3) := by decide +kernel
theorem dX1_sideAt_19 : decode cX1_sideAt 19 = .ok (.iload_n 1, 1) := by decide +kernel
theorem dX1_sideAt_20 : decode cX1_sideAt 20 = .ok (.if_icmp .ne 25, 3) := by decide +kernel
theorem dX1_sideAt_23 : decode cX1_sideAt 23 = .ok (.aload_n 0, 1) := by decide +kernel
theorem dX1_sideAt_24 : decode cX1_sideAt 24 = .ok (.getfield 20, 3) := by decide +kernel
theorem dX1_sideAt_27 : decode cX1_sideAt 27 = .ok (.iload_n 2, 1) := by decide +kernel
theorem dX1_sideAt_28 : decode cX1_sideAt 28 = .ok (.aaload, 1) := by decide +kernel
theorem dX1_sideAt_29 : decode cX1_sideAt 29 = .ok (.invokevirtual 42, 3) := by decide +kernel
theorem dX1_sideAt_32 : decode cX1_sideAt 32 = .ok (.ifCond .ne 13, 3) := by decide +kernel
theorem dX1_sideAt_35 : decode cX1_sideAt 35 = .ok (.aload_n 0, 1) := by decide +kernel
theorem dX1_sideAt_36 : decode cX1_sideAt 36 = .ok (.getfield 20, 3) := by decide +kernel
theorem dX1_sideAt_39 : decode cX1_sideAt 39 = .ok (.iload_n 2, 1) := by decide +kernel
theorem dX1_sideAt_40 : decode cX1_sideAt 40 = .ok (.aaload, 1) := by decide +kernel
theorem dX1_sideAt_41 : decode cX1_sideAt 41 = .ok (.getfield 39, 3) := by decide +kernel
theorem dX1_sideAt_44 : decode cX1_sideAt 44 = .ok (.ireturn, 1) := by decide +kernel
theorem dX1_sideAt_45 : decode cX1_sideAt 45 = .ok (.iinc 2 1, 3) := by decide +kernel
theorem dX1_sideAt_48 : decode cX1_sideAt 48 = .ok (.goto (-46), 3) := by decide +kernel
theorem dX1_sideAt_51 : decode cX1_sideAt 51 = .ok (.iconst (-1), 1) := by decide +kernel
theorem dX1_sideAt_52 : decode cX1_sideAt 52 = .ok (.ireturn, 1) := by decide +kernel
set_option maxRecDepth 20000 in
theorem ggX1_letHoursGoBy_X1_actAll : GoodIn wsX1_letHoursGoBy wsX1_actAll := goodIn_r _ [7, 8, 9, 10, 11, 1, 12, 13, 14, 15, 16, 17, 18, 19, 20, 21, 22, 23, 24, 25, 26, 27, 28, 29, 30, 31, 6, 32, 33, 34, 35, 36, 37, 38, 39, 40, 41, 42, 43, 44, 45, 46, 47, 48, 49, 50, 51, 52, 53, 54, 55, 56, 57, 58, 59, 60, 61, 62, 63, 64, 65, 66, 67, 68, 69, 70, 71, 72, 73, 74, 75, 76, 77, 78, 79, 80, 81, 82, 83, 84, 85, 86, 87, 88, 89, 90, 91, 92, 93, 94, 95, 96, 97, 98, 99, 100, 101, 102, 103, 104, 105, 106, 107, 108, 109, 110, 111, 112, 113, 114, 115, 116, 117, 118, 119, 120, 121, 122, 123, 124, 125, 126, 127, 128, 129, 130, 131, 132, 133, 134, 135, 136, 137, 138, 139, 140, 141, 142, 143, 144, 224, 225, 226, 227, 228, 229, 230, 231, 232, 233, 234, 235, 236, 237, 238, 239, 240, 241, 242, 243, 244, 245, 246, 247, 248, 249, 250, 251, 252, 253, 254, 255] (by decide +kernel) (by decide +kernel)
set_option maxRecDepth 20000 in
theorem gX1_letHoursGoBy_X1_actAll : GoodIn wsX1_letHoursGoBy (wsV RX1 52 RX1 yX1_actAll wsX1_actAll) := goodIn_app (goodIn_of _ (by decide +kernel)) ggX1_letHoursGoBy_X1_actAll
set_option maxRecDepth 20000 in
theorem ggX1_letHoursGoBy_X1_fightAll : GoodIn wsX1_letHoursGoBy wsX1_fightAll := goodIn_r _ [148, 8, 9, 10, 149, 150, 44, 151, 152, 153, 154, 155, 6, 156, 33, 13, 34, 35, 36, 18, 37, 38, 39, 40, 41, 42, 43, 45, 50, 51, 52, 53, 28, 54, 55, 56, 224, 225, 226, 227, 228, 229, 230, 231, 232, 233, 234, 235, 236, 237, 238, 239, 240, 241, 242, 243] (by decide +kernel) (by decide +kernel)
set_option maxRecDepth 20000 in
theorem gX1_letHoursGoBy_X1_fightAll : GoodIn wsX1_letHoursGoBy (wsV RX1 55 RX1 yX1_fightAll wsX1_fightAll) := goodIn_app (goodIn_of _ (by decide +kernel)) ggX1_letHoursGoBy_X1_fightAll
set_option maxRecDepth 20000 in
theorem ggX1_letHoursGoBy_X1_listenAll : GoodIn wsX1_letHoursGoBy wsX1_listenAll := goodIn_r _ [160, 8, 9, 69, 24, 25, 26, 18, 27, 28, 161, 162, 163, 6, 164, 11, 13, 33, 2, 39, 40, 41, 42, 43, 44, 45, 165, 166, 167, 168, 169, 170, 171, 172, 173, 174, 175, 224, 225, 226, 227, 228, 229, 230, 231, 232, 233, 234, 235, 236, 237, 238, 239, 240, 241, 242, 243] (by decide +kernel) (by decide +kernel)
set_option maxRecDepth 20000 in
theorem gX1_letHoursGoBy_X1_listenAll : GoodIn wsX1_letHoursGoBy (wsV RX1 58 RX1 yX1_listenAll wsX1_listenAll) := goodIn_app (goodIn_of _ (by decide +kernel)) ggX1_letHoursGoBy_X1_listenAll
set_option maxRecDepth 20000 in
theorem ggX1_letHoursGoBy_X0_spreadSmoke : GoodIn wsX1_letHoursGoBy wsX0_spreadSmoke := goodIn_r _ [179, 117, 180, 181, 182, 183, 184, 185, 55, 44, 56, 186, 187, 188, 62, 189, 140, 60, 61, 63, 64, 190, 191, 192, 193, 57, 40, 58, 244, 245, 246, 247, 248, 249, 250, 251, 252, 253, 254, 255] (by decide +kernel) (by decide +kernel)
set_option maxRecDepth 20000 in
theorem gX1_letHoursGoBy_X0_spreadSmoke : GoodIn wsX1_letHoursGoBy (wsV RX1 61 RX0 yX0_spreadSmoke wsX0_spreadSmoke) := goodIn_app (goodIn_of _ (by decide +kernel)) ggX1_letHoursGoBy_X0_spreadSmoke
set_option maxRecDepth 20000 in
theorem ggX1_letHoursGoBy_X0_settle : GoodIn wsX1_letHoursGoBy wsX0_settle := goodIn_r _ [197, 198, 140, 60, 61, 62, 63, 64, 199, 200, 201, 202, 118, 115, 116, 91, 203, 204, 205, 206, 207, 208, 209, 210, 211, 212, 185, 55, 44, 56, 213, 214, 215, 216, 217, 111, 112, 113, 114, 117, 106, 244, 245, 246, 247, 248, 249, 250, 251, 252, 253, 254, 255] (by decide +kernel) (by decide +kernel)
set_option maxRecDepth 20000 in
theorem gX1_letHoursGoBy_X0_settle : GoodIn wsX1_letHoursGoBy (wsV RX1 64 RX0 yX0_settle wsX0_settle) := goodIn_app (goodIn_of _ (by decide +kernel)) ggX1_letHoursGoBy_X0_settle
set_option maxRecDepth 20000 in
theorem ggX1_letHoursGoBy_X1_buryTeams : GoodIn wsX1_letHoursGoBy wsX1_buryTeams := goodIn_r _ [221, 8, 1, 222, 9, 13, 223, 224, 225, 226, 227, 244, 245, 246, 247, 248, 249, 250, 251, 252, 253, 254, 255, 228, 229, 230, 231, 232, 233, 234, 235, 236, 237, 238, 239, 240, 241, 242, 243] (by decide +kernel) (by decide +kernel)
set_option maxRecDepth 20000 in
theorem gX1_letHoursGoBy_X1_buryTeams : GoodIn wsX1_letHoursGoBy (wsV RX1 67 RX1 yX1_buryTeams wsX1_buryTeams) := goodIn_app (goodIn_of _ (by decide +kernel)) ggX1_letHoursGoBy_X1_buryTeams
theorem dX1_letHoursGoBy_0 : decode cX1_letHoursGoBy 0 = .ok (.iconst 0, 1) := by decide +kernel
theorem dX1_letHoursGoBy_1 : decode cX1_letHoursGoBy 1 = .ok (.istore_n 2, 1) := by decide +kernel
theorem dX1_letHoursGoBy_2 : decode cX1_letHoursGoBy 2 = .ok (.iload_n 2, 1) := by decide +kernel
theorem dX1_letHoursGoBy_3 : decode cX1_letHoursGoBy 3 = .ok (.iload_n 1, 1) := by decide +kernel
theorem dX1_letHoursGoBy_4 : decode cX1_letHoursGoBy 4 = .ok (.if_icmp .ge 49, 3) := by decide +kernel
theorem dX1_letHoursGoBy_7 : decode cX1_letHoursGoBy 7 = .ok (.aload_n 0, 1) := by decide +kernel
theorem dX1_letHoursGoBy_8 : decode cX1_letHoursGoBy 8 = .ok (.invokevirtual 52, 3) := by decide +kernel
theorem dX1_letHoursGoBy_11 : decode cX1_letHoursGoBy 11 = .ok (.aload_n 0, 1) := by decide +kernel
theorem dX1_letHoursGoBy_12 : decode cX1_letHoursGoBy 12 = .ok (.invokevirtual 55, 3) := by decide +kernel
theorem dX1_letHoursGoBy_15 : decode cX1_letHoursGoBy 15 = .ok (.aload_n 0, 1) := by decide +kernel
theorem dX1_letHoursGoBy_16 : decode cX1_letHoursGoBy 16 = .ok (.invokevirtual 58, 3) := by decide +kernel
theorem dX1_letHoursGoBy_19 : decode cX1_letHoursGoBy 19 = .ok (.aload_n 0, 1) := by decide +kernel
theorem dX1_letHoursGoBy_20 : decode cX1_letHoursGoBy 20 = .ok (.getfield 12, 3) := by decide +kernel
theorem dX1_letHoursGoBy_23 : decode cX1_letHoursGoBy 23 = .ok (.invokevirtual 61, 3) := by decide +kernel
theorem dX1_letHoursGoBy_26 : decode cX1_letHoursGoBy 26 = .ok (.aload_n 0, 1) := by decide +kernel
theorem dX1_letHoursGoBy_27 : decode cX1_letHoursGoBy 27 = .ok (.getfield 12, 3) := by decide +kernel
theorem dX1_letHoursGoBy_30 : decode cX1_letHoursGoBy 30 = .ok (.invokevirtual 64, 3) := by decide +kernel
theorem dX1_letHoursGoBy_33 : decode cX1_letHoursGoBy 33 = .ok (.aload_n 0, 1) := by decide +kernel
theorem dX1_letHoursGoBy_34 : decode cX1_letHoursGoBy 34 = .ok (.invokevirtual 67, 3) := by decide +kernel
theorem dX1_letHoursGoBy_37 : decode cX1_letHoursGoBy 37 = .ok (.aload_n 0, 1) := by decide +kernel
theorem dX1_letHoursGoBy_38 : decode cX1_letHoursGoBy 38 = .ok (.dup, 1) := by decide +kernel
theorem dX1_letHoursGoBy_39 : decode cX1_letHoursGoBy 39 = .ok (.getfield 28, 3) := by decide +kernel
theorem dX1_letHoursGoBy_42 : decode cX1_letHoursGoBy 42 = .ok (.iconst 1, 1) := by decide +kernel
theorem dX1_letHoursGoBy_43 : decode cX1_letHoursGoBy 43 = .ok (.iadd, 1) := by decide +kernel
theorem dX1_letHoursGoBy_44 : decode cX1_letHoursGoBy 44 = .ok (.putfield 28, 3) := by decide +kernel
theorem dX1_letHoursGoBy_47 : decode cX1_letHoursGoBy 47 = .ok (.iinc 2 1, 3) := by decide +kernel
theorem dX1_letHoursGoBy_50 : decode cX1_letHoursGoBy 50 = .ok (.goto (-48), 3) := by decide +kernel
theorem dX1_letHoursGoBy_53 : decode cX1_letHoursGoBy 53 = .ok (.return_, 1) := by decide +kernel
set_option maxRecDepth 20000 in
theorem ggX1_actAll_X3_beginHour : GoodIn wsX1_actAll wsX3_beginHour := goodIn_r _ [13, 14, 15, 16, 17, 144, 145, 146, 147, 148, 149, 150, 151, 152, 153, 154, 155, 156, 157, 158, 159] (by decide +kernel) (by decide +kernel)
set_option maxRecDepth 20000 in
theorem gX1_actAll_X3_beginHour : GoodIn wsX1_actAll (wsV RX1 70 RX3 yX3_beginHour wsX3_beginHour) := goodIn_app (goodIn_of _ (by decide +kernel)) ggX1_actAll_X3_beginHour
set_option maxRecDepth 20000 in
theorem ggX1_actAll_X3_isGone : GoodIn wsX1_actAll wsX3_isGone := goodIn_r _ [21, 22, 144, 145, 146, 147, 148, 149, 150, 151, 152, 153, 154, 155, 156, 157, 158, 159] (by decide +kernel) (by decide +kernel)
set_option maxRecDepth 20000 in
theorem gX1_actAll_X3_isGone : GoodIn wsX1_actAll (wsV RX1 42 RX3 yX3_isGone wsX3_isGone) := goodIn_app (goodIn_of _ (by decide +kernel)) ggX1_actAll_X3_isGone
set_option maxRecDepth 20000 in
theorem ggX1_actAll_X1_seesEnemy : GoodIn wsX1_actAll wsX1_seesEnemy := goodIn_r _ [27, 1, 2, 28, 7, 18, 19, 20, 12, 21, 22, 29, 30, 31, 32, 33, 34, 35, 36, 37, 38, 39, 40, 140, 141, 142, 143, 144, 145, 146, 147, 148, 149, 150, 151, 152, 153, 154, 155, 156, 157, 158, 159] (by decide +kernel) (by decide +kernel)
set_option maxRecDepth 20000 in
theorem gX1_actAll_X1_seesEnemy : GoodIn wsX1_actAll (wsV RX1 73 RX1 yX1_seesEnemy wsX1_seesEnemy) := goodIn_app (goodIn_of _ (by decide +kernel)) ggX1_actAll_X1_seesEnemy
set_option maxRecDepth 20000 in
theorem ggX1_actAll_X1_choke : GoodIn wsX1_actAll wsX1_choke := goodIn_r _ [44, 4, 7, 5, 6, 45, 46, 47, 12, 48, 22, 49, 50, 39, 51, 18, 19, 20, 21, 52, 35, 53, 54, 55, 56, 57, 58, 59, 144, 145, 146, 147, 148, 149, 150, 151, 152, 153, 154, 155, 156, 157, 158, 159, 140, 141, 142, 143, 160, 161, 162, 163, 164, 165, 166, 167, 168, 169, 170, 171] (by decide +kernel) (by decide +kernel)
set_option maxRecDepth 20000 in
theorem gX1_actAll_X1_choke : GoodIn wsX1_actAll (wsV RX1 88 RX1 yX1_choke wsX1_choke) := goodIn_app (goodIn_of _ (by decide +kernel)) ggX1_actAll_X1_choke
set_option maxRecDepth 20000 in
theorem ggX1_actAll_X1_carryOutFirstOrder : GoodIn wsX1_actAll wsX1_carryOutFirstOrder := goodIn_r _ [63, 4, 64, 5, 6, 7, 65, 66, 67, 12, 68, 69, 70, 71, 72, 73, 26, 74, 75, 76, 77, 78, 79, 80, 81, 52, 35, 53, 82, 83, 84, 57, 85, 86, 87, 88, 89, 90, 91, 92, 93, 94, 95, 96, 54, 55, 56, 58, 59, 97, 98, 99, 100, 101, 102, 103, 104, 105, 106, 107, 108, 109, 110, 111, 112, 113, 114, 115, 116, 117, 118, 119, 120, 121, 122, 123, 124, 125, 126, 127, 128, 129, 130, 131, 132, 133, 134, 135, 136, 137, 138, 139, 144, 145, 146, 147, 148, 149, 150, 151, 152, 153, 154, 155, 156, 157, 158, 159, 140, 141, 142, 143, 160, 161, 162, 163, 164, 165, 166, 167, 168, 169, 170, 171] (by decide +kernel) (by decide +kernel)
set_option maxRecDepth 20000 in
theorem gX1_actAll_X1_carryOutFirstOrder : GoodIn wsX1_actAll (wsV RX1 94 RX1 yX1_carryOutFirstOrder wsX1_carryOutFirstOrder) := goodIn_app (goodIn_of _ (by decide +kernel)) ggX1_actAll_X1_carryOutFirstOrder
theorem dX1_actAll_0 : decode cX1_actAll 0 = .ok (.iconst 0, 1) := by decide +kernel
theorem dX1_actAll_1 : decode cX1_actAll 1 = .ok (.istore_n 1, 1) := by decide +kernel
theorem dX1_actAll_2 : decode cX1_actAll 2 = .ok (.iload_n 1, 1) := by decide +kernel
theorem dX1_actAll_3 : decode cX1_actAll 3 = .ok (.aload_n 0, 1) := by decide +kernel
theorem dX1_actAll_4 : decode cX1_actAll 4 = .ok (.getfield 24, 3) := by decide +kernel
theorem dX1_actAll_7 : decode cX1_actAll 7 = .ok (.if_icmp .ge 89, 3) := by decide +kernel
theorem dX1_actAll_10 : decode cX1_actAll 10 = .ok (.aload_n 0, 1) := by decide +kernel
theorem dX1_actAll_11 : decode cX1_actAll 11 = .ok (.getfield 20, 3) := by decide +kernel
theorem dX1_actAll_14 : decode cX1_actAll 14 = .ok (.iload_n 1, 1) := by decide +kernel
theorem dX1_actAll_15 : decode cX1_actAll 15 = .ok (.aaload, 1) := by decide +kernel
theorem dX1_actAll_16 : decode cX1_actAll 16 = .ok (.astore_n 2, 1) := by decide +kernel
theorem dX1_actAll_17 : decode cX1_actAll 17 = .ok (.aload_n 2, 1) := by decide +kernel
theorem dX1_actAll_18 : decode cX1_actAll 18 = .ok (.invokevirtual 70, 3) := by decide +kernel
theorem dX1_actAll_21 : decode cX1_actAll 21 = .ok (.aload_n 2, 1) := by decide +kernel
theorem dX1_actAll_22 : decode cX1_actAll 22 = .ok (.invokevirtual 42, 3) := by decide +kernel
theorem dX1_actAll_25 : decode cX1_actAll 25 = .ok (.ifCond .eq 6, 3) := by decide +kernel
theorem dX1_actAll_28 : decode cX1_actAll 28 = .ok (.goto 62, 3) := by decide +kernel
theorem dX1_actAll_31 : decode cX1_actAll 31 = .ok (.aload_n 0, 1) := by decide +kernel
theorem dX1_actAll_32 : decode cX1_actAll 32 = .ok (.aload_n 2, 1) := by decide +kernel
theorem dX1_actAll_33 : decode cX1_actAll 33 = .ok (.invokevirtual 73, 3) := by decide +kernel
theorem dX1_actAll_36 : decode cX1_actAll 36 = .ok (.ifCond .eq 17, 3) := by decide +kernel
theorem dX1_actAll_39 : decode cX1_actAll 39 = .ok (.aload_n 2, 1) := by decide +kernel
theorem dX1_actAll_40 : decode cX1_actAll 40 = .ok (.iconst 1, 1) := by decide +kernel
theorem dX1_actAll_41 : decode cX1_actAll 41 = .ok (.putfield 77, 3) := by decide +kernel
theorem dX1_actAll_44 : decode cX1_actAll 44 = .ok (.aload_n 2, 1) := by decide +kernel
theorem dX1_actAll_45 : decode cX1_actAll 45 = .ok (.bipush 6, 2) := by decide +kernel
theorem dX1_actAll_47 : decode cX1_actAll 47 = .ok (.putfield 81, 3) := by decide +kernel
theorem dX1_actAll_50 : decode cX1_actAll 50 = .ok (.goto 40, 3) := by decide +kernel
theorem dX1_actAll_53 : decode cX1_actAll 53 = .ok (.aload_n 0, 1) := by decide +kernel
theorem dX1_actAll_54 : decode cX1_actAll 54 = .ok (.getfield 12, 3) := by decide +kernel
theorem dX1_actAll_57 : decode cX1_actAll 57 = .ok (.getfield 84, 3) := by decide +kernel
theorem dX1_actAll_60 : decode cX1_actAll 60 = .ok (.aload_n 2, 1) := by decide +kernel
theorem dX1_actAll_61 : decode cX1_actAll 61 = .ok (.getfield 49, 3) := by decide +kernel
theorem dX1_actAll_64 : decode cX1_actAll 64 = .ok (.iaload, 1) := by decide +kernel
theorem dX1_actAll_65 : decode cX1_actAll 65 = .ok (.bipush 6, 2) := by decide +kernel
theorem dX1_actAll_67 : decode cX1_actAll 67 = .ok (.if_icmp .lt 11, 3) := by decide +kernel
theorem dX1_actAll_70 : decode cX1_actAll 70 = .ok (.aload_n 0, 1) := by decide +kernel
theorem dX1_actAll_71 : decode cX1_actAll 71 = .ok (.aload_n 2, 1) := by decide +kernel
theorem dX1_actAll_72 : decode cX1_actAll 72 = .ok (.invokevirtual 88, 3) := by decide +kernel
theorem dX1_actAll_75 : decode cX1_actAll 75 = .ok (.goto 15, 3) := by decide +kernel
theorem dX1_actAll_78 : decode cX1_actAll 78 = .ok (.aload_n 2, 1) := by decide +kernel
theorem dX1_actAll_79 : decode cX1_actAll 79 = .ok (.getfield 91, 3) := by decide +kernel
theorem dX1_actAll_82 : decode cX1_actAll 82 = .ok (.ifCond .le 8, 3) := by decide +kernel
theorem dX1_actAll_85 : decode cX1_actAll 85 = .ok (.aload_n 0, 1) := by decide +kernel
theorem dX1_actAll_86 : decode cX1_actAll 86 = .ok (.aload_n 2, 1) := by decide +kernel
theorem dX1_actAll_87 : decode cX1_actAll 87 = .ok (.invokevirtual 94, 3) := by decide +kernel
theorem dX1_actAll_90 : decode cX1_actAll 90 = .ok (.iinc 1 1, 3) := by decide +kernel
theorem dX1_actAll_93 : decode cX1_actAll 93 = .ok (.goto (-91), 3) := by decide +kernel
theorem dX1_actAll_96 : decode cX1_actAll 96 = .ok (.return_, 1) := by decide +kernel
set_option maxRecDepth 20000 in
theorem ggX1_seesEnemy_X3_isGone : GoodIn wsX1_seesEnemy wsX3_isGone := goodIn_r _ [9, 10, 27, 28, 29, 30, 31, 32, 33, 34, 35, 36, 37, 38, 39, 40, 41, 42] (by decide +kernel) (by decide +kernel)
set_option maxRecDepth 20000 in
theorem gX1_seesEnemy_X3_isGone : GoodIn wsX1_seesEnemy (wsV RX1 42 RX3 yX3_isGone wsX3_isGone) := goodIn_app (goodIn_of _ (by decide +kernel)) ggX1_seesEnemy_X3_isGone
set_option maxRecDepth 20000 in
theorem ggX1_seesEnemy_X3_isNear : GoodIn wsX1_seesEnemy wsX3_isNear := goodIn_r _ [14, 15, 16, 17, 18, 19, 20, 21, 22, 27, 28, 29, 30, 31, 32, 33, 34, 35, 36, 37, 38, 39, 40, 41, 42] (by decide +kernel) (by decide +kernel)
set_option maxRecDepth 20000 in
theorem gX1_seesEnemy_X3_isNear : GoodIn wsX1_seesEnemy (wsV RX1 97 RX3 yX3_isNear wsX3_isNear) := goodIn_app (goodIn_of _ (by decide +kernel)) ggX1_seesEnemy_X3_isNear
theorem dX1_seesEnemy_0 : decode cX1_seesEnemy 0 = .ok (.iconst 0, 1) := by decide +kernel
theorem dX1_seesEnemy_1 : decode cX1_seesEnemy 1 = .ok (.istore_n 2, 1) := by decide +kernel
theorem dX1_seesEnemy_2 : decode cX1_seesEnemy 2 = .ok (.iload_n 2, 1) := by decide +kernel
theorem dX1_seesEnemy_3 : decode cX1_seesEnemy 3 = .ok (.aload_n 0, 1) := by decide +kernel
theorem dX1_seesEnemy_4 : decode cX1_seesEnemy 4 = .ok (.getfield 24, 3) := by decide +kernel
theorem dX1_seesEnemy_7 : decode cX1_seesEnemy 7 = .ok (.if_icmp .ge 47, 3) := by decide +kernel
theorem dX1_seesEnemy_10 : decode cX1_seesEnemy 10 = .ok (.aload_n 0, 1) := by decide +kernel
theorem dX1_seesEnemy_11 : decode cX1_seesEnemy 11 = .ok (.getfield 20, 3) := by decide +kernel
theorem dX1_seesEnemy_14 : decode cX1_seesEnemy 14 = .ok (.iload_n 2, 1) := by decide +kernel
theorem dX1_seesEnemy_15 : decode cX1_seesEnemy 15 = .ok (.aaload, 1) := by decide +kernel
theorem dX1_seesEnemy_16 : decode cX1_seesEnemy 16 = .ok (.astore_n 3, 1) := by decide +kernel
theorem dX1_seesEnemy_17 : decode cX1_seesEnemy 17 = .ok (.aload_n 3, 1) := by decide +kernel
theorem dX1_seesEnemy_18 : decode cX1_seesEnemy 18 = .ok (.getfield 39, 3) := by decide +kernel
theorem dX1_seesEnemy_21 : decode cX1_seesEnemy 21 = .ok (.aload_n 1, 1) := by decide +kernel
theorem dX1_seesEnemy_22 : decode cX1_seesEnemy 22 = .ok (.getfield 39, 3) := by decide +kernel
theorem dX1_seesEnemy_25 : decode cX1_seesEnemy 25 = .ok (.if_icmp .eq 23, 3) := by decide +kernel
theorem dX1_seesEnemy_28 : decode cX1_seesEnemy 28 = .ok (.aload_n 3, 1) := by decide +kernel
theorem dX1_seesEnemy_29 : decode cX1_seesEnemy 29 = .ok (.invokevirtual 42, 3) := by decide +kernel
theorem dX1_seesEnemy_32 : decode cX1_seesEnemy 32 = .ok (.ifCond .ne 16, 3) := by decide +kernel
theorem dX1_seesEnemy_35 : decode cX1_seesEnemy 35 = .ok (.aload_n 1, 1) := by decide +kernel
theorem dX1_seesEnemy_36 : decode cX1_seesEnemy 36 = .ok (.aload_n 3, 1) := by decide +kernel
theorem dX1_seesEnemy_37 : decode cX1_seesEnemy 37 = .ok (.getfield 49, 3) := by decide +kernel
theorem dX1_seesEnemy_40 : decode cX1_seesEnemy 40 = .ok (.invokevirtual 97, 3) := by decide +kernel
theorem dX1_seesEnemy_43 : decode cX1_seesEnemy 43 = .ok (.ifCond .eq 5, 3) := by decide +kernel
theorem dX1_seesEnemy_46 : decode cX1_seesEnemy 46 = .ok (.iconst 1, 1) := by decide +kernel
theorem dX1_seesEnemy_47 : decode cX1_seesEnemy 47 = .ok (.ireturn, 1) := by decide +kernel
theorem dX1_seesEnemy_48 : decode cX1_seesEnemy 48 = .ok (.iinc 2 1, 3) := by decide +kernel
theorem dX1_seesEnemy_51 : decode cX1_seesEnemy 51 = .ok (.goto (-49), 3) := by decide +kernel
theorem dX1_seesEnemy_54 : decode cX1_seesEnemy 54 = .ok (.iconst 0, 1) := by decide +kernel
theorem dX1_seesEnemy_55 : decode cX1_seesEnemy 55 = .ok (.ireturn, 1) := by decide +kernel
set_option maxRecDepth 20000 in
theorem ggX1_choke_X3_loseHealth : GoodIn wsX1_choke wsX3_loseHealth := goodIn_r _ [9, 10, 11, 12, 13, 14, 28, 29, 30, 31, 32, 33, 34, 35, 36, 37, 38, 39, 40, 41, 42, 43] (by decide +kernel) (by decide +kernel)
set_option maxRecDepth 20000 in
theorem gX1_choke_X3_loseHealth : GoodIn wsX1_choke (wsV RX1 101 RX3 yX3_loseHealth wsX3_loseHealth) := goodIn_app (goodIn_of _ (by decide +kernel)) ggX1_choke_X3_loseHealth
set_option maxRecDepth 20000 in
theorem ggX1_choke_X3_isGone : GoodIn wsX1_choke wsX3_isGone := goodIn_r _ [18, 10, 28, 29, 30, 31, 32, 33, 34, 35, 36, 37, 38, 39, 40, 41, 42, 43] (by decide +kernel) (by decide +kernel)
set_option maxRecDepth 20000 in
theorem gX1_choke_X3_isGone : GoodIn wsX1_choke (wsV RX1 42 RX3 yX3_isGone wsX3_isGone) := goodIn_app (goodIn_of _ (by decide +kernel)) ggX1_choke_X3_isGone
set_option maxRecDepth 20000 in
theorem ggX1_choke_X5_neighbour : GoodIn wsX1_choke wsX5_neighbour := goodIn_r _ [21] (by decide +kernel) (by decide +kernel)
set_option maxRecDepth 20000 in
theorem gX1_choke_X5_neighbour_n105 : GoodIn wsX1_choke (wsX5_neighbour) := ggX1_choke_X5_neighbour
set_option maxRecDepth 20000 in
theorem ggX1_choke_X0_isTunnel : GoodIn wsX1_choke wsX0_isTunnel := goodIn_r _ [26, 27, 48, 49, 50, 51, 52, 53, 54, 55, 56, 57, 58, 59] (by decide +kernel) (by decide +kernel)
set_option maxRecDepth 20000 in
theorem gX1_choke_X0_isTunnel : GoodIn wsX1_choke (wsV RX1 109 RX0 yX0_isTunnel wsX0_isTunnel) := goodIn_app (goodIn_of _ (by decide +kernel)) ggX1_choke_X0_isTunnel
theorem dX1_choke_0 : decode cX1_choke 0 = .ok (.aload_n 1, 1) := by decide +kernel
theorem dX1_choke_1 : decode cX1_choke 1 = .ok (.iconst 1, 1) := by decide +kernel
theorem dX1_choke_2 : decode cX1_choke 2 = .ok (.putfield 81, 3) := by decide +kernel
theorem dX1_choke_5 : decode cX1_choke 5 = .ok (.aload_n 1, 1) := by decide +kernel
theorem dX1_choke_6 : decode cX1_choke 6 = .ok (.iconst 1, 1) := by decide +kernel
theorem dX1_choke_7 : decode cX1_choke 7 = .ok (.invokevirtual 101, 3) := by decide +kernel
theorem dX1_choke_10 : decode cX1_choke 10 = .ok (.aload_n 1, 1) := by decide +kernel
theorem dX1_choke_11 : decode cX1_choke 11 = .ok (.invokevirtual 42, 3) := by decide +kernel
theorem dX1_choke_14 : decode cX1_choke 14 = .ok (.ifCond .eq 4, 3) := by decide +kernel
theorem dX1_choke_17 : decode cX1_choke 17 = .ok (.return_, 1) := by decide +kernel
theorem dX1_choke_18 : decode cX1_choke 18 = .ok (.aload_n 1, 1) := by decide +kernel
theorem dX1_choke_19 : decode cX1_choke 19 = .ok (.getfield 49, 3) := by decide +kernel
theorem dX1_choke_22 : decode cX1_choke 22 = .ok (.istore_n 2, 1) := by decide +kernel
theorem dX1_choke_23 : decode cX1_choke 23 = .ok (.iconst 0, 1) := by decide +kernel
theorem dX1_choke_24 : decode cX1_choke 24 = .ok (.istore_n 3, 1) := by decide +kernel
theorem dX1_choke_25 : decode cX1_choke 25 = .ok (.iload_n 3, 1) := by decide +kernel
theorem dX1_choke_26 : decode cX1_choke 26 = .ok (.iconst 4, 1) := by decide +kernel
theorem dX1_choke_27 : decode cX1_choke 27 = .ok (.if_icmp .ge 61, 3) := by decide +kernel
theorem dX1_choke_30 : decode cX1_choke 30 = .ok (.aload_n 1, 1) := by decide +kernel
theorem dX1_choke_31 : decode cX1_choke 31 = .ok (.getfield 49, 3) := by decide +kernel
theorem dX1_choke_34 : decode cX1_choke 34 = .ok (.iload_n 3, 1) := by decide +kernel
theorem dX1_choke_35 : decode cX1_choke 35 = .ok (.invokestatic 105, 3) := by decide +kernel
theorem dX1_choke_38 : decode cX1_choke 38 = .ok (.istore 4, 2) := by decide +kernel
theorem dX1_choke_40 : decode cX1_choke 40 = .ok (.iload 4, 2) := by decide +kernel
theorem dX1_choke_42 : decode cX1_choke 42 = .ok (.ifCond .lt 40, 3) := by decide +kernel
theorem dX1_choke_45 : decode cX1_choke 45 = .ok (.aload_n 0, 1) := by decide +kernel
theorem dX1_choke_46 : decode cX1_choke 46 = .ok (.getfield 12, 3) := by decide +kernel
theorem dX1_choke_49 : decode cX1_choke 49 = .ok (.iload 4, 2) := by decide +kernel
theorem dX1_choke_51 : decode cX1_choke 51 = .ok (.invokevirtual 109, 3) := by decide +kernel
theorem dX1_choke_54 : decode cX1_choke 54 = .ok (.ifCond .eq 28, 3) := by decide +kernel
theorem dX1_choke_57 : decode cX1_choke 57 = .ok (.aload_n 0, 1) := by decide +kernel
theorem dX1_choke_58 : decode cX1_choke 58 = .ok (.getfield 12, 3) := by decide +kernel
theorem dX1_choke_61 : decode cX1_choke 61 = .ok (.getfield 84, 3) := by decide +kernel
theorem dX1_choke_64 : decode cX1_choke 64 = .ok (.iload 4, 2) := by decide +kernel
theorem dX1_choke_66 : decode cX1_choke 66 = .ok (.iaload, 1) := by decide +kernel
theorem dX1_choke_67 : decode cX1_choke 67 = .ok (.aload_n 0, 1) := by decide +kernel
theorem dX1_choke_68 : decode cX1_choke 68 = .ok (.getfield 12, 3) := by decide +kernel
theorem dX1_choke_71 : decode cX1_choke 71 = .ok (.getfield 84, 3) := by decide +kernel
theorem dX1_choke_74 : decode cX1_choke 74 = .ok (.iload_n 2, 1) := by decide +kernel
theorem dX1_choke_75 : decode cX1_choke 75 = .ok (.iaload, 1) := by decide +kernel
theorem dX1_choke_76 : decode cX1_choke 76 = .ok (.if_icmp .ge 6, 3) := by decide +kernel
theorem dX1_choke_79 : decode cX1_choke 79 = .ok (.iload 4, 2) := by decide +kernel
theorem dX1_choke_81 : decode cX1_choke 81 = .ok (.istore_n 2, 1) := by decide +kernel
theorem dX1_choke_82 : decode cX1_choke 82 = .ok (.iinc 3 1, 3) := by decide +kernel
theorem dX1_choke_85 : decode cX1_choke 85 = .ok (.goto (-60), 3) := by decide +kernel
theorem dX1_choke_88 : decode cX1_choke 88 = .ok (.aload_n 1, 1) := by decide +kernel
theorem dX1_choke_89 : decode cX1_choke 89 = .ok (.iload_n 2, 1) := by decide +kernel
theorem dX1_choke_90 : decode cX1_choke 90 = .ok (.putfield 49, 3) := by decide +kernel
theorem dX1_choke_93 : decode cX1_choke 93 = .ok (.return_, 1) := by decide +kernel
set_option maxRecDepth 20000 in
theorem ggX1_carryOutFirstOrder_X3_firstKind : GoodIn wsX1_carryOutFirstOrder wsX3_firstKind := goodIn_r _ [10, 11, 12, 92, 93, 94, 95, 96, 97, 98, 99, 100, 101, 102, 103, 104, 105, 106, 107] (by decide +kernel) (by decide +kernel)
set_option maxRecDepth 20000 in
theorem gX1_carryOutFirstOrder_X3_firstKind : GoodIn wsX1_carryOutFirstOrder (wsV RX1 112 RX3 yX3_firstKind wsX3_firstKind) := goodIn_app (goodIn_of _ (by decide +kernel)) ggX1_carryOutFirstOrder_X3_firstKind
set_option maxRecDepth 20000 in
theorem ggX1_carryOutFirstOrder_X1_dig : GoodIn wsX1_carryOutFirstOrder wsX1_dig := goodIn_r _ [17, 5, 3, 18, 19, 20, 21, 22, 9, 23, 24, 25, 26, 27, 28, 29, 30, 31, 32, 33, 34, 35, 36, 37, 38, 39, 40, 41, 42, 12, 43, 11, 44, 45, 46, 47, 48, 49, 50, 51, 52, 53, 54, 55, 56, 57, 58, 59, 60, 61, 62, 63, 64, 65, 66, 67, 68, 69, 92, 93, 94, 95, 96, 97, 98, 99, 100, 101, 102, 103, 104, 105, 106, 107, 108, 109, 110, 111, 112, 113, 114, 115, 116, 117, 118, 119, 120, 121, 122, 123] (by decide +kernel) (by decide +kernel)
set_option maxRecDepth 20000 in
theorem gX1_carryOutFirstOrder_X1_dig : GoodIn wsX1_carryOutFirstOrder (wsV RX1 119 RX1 yX1_dig wsX1_dig) := goodIn_app (goodIn_of _ (by decide +kernel)) ggX1_carryOutFirstOrder_X1_dig
set_option maxRecDepth 20000 in
theorem ggX1_carryOutFirstOrder_X1_goOn : GoodIn wsX1_carryOutFirstOrder wsX1_goOn := goodIn_r _ [73, 5, 3, 20, 21, 22, 9, 23, 24, 25, 26, 27, 44, 45, 46, 31, 47, 48, 34, 35, 36, 37, 38, 39, 40, 41, 42, 12, 43, 11, 66, 67, 68, 69, 92, 93, 94, 95, 96, 97, 98, 99, 100, 101, 102, 103, 104, 105, 106, 107, 108, 109, 110, 111, 112, 113, 114, 115, 116, 117, 118, 119, 120, 121, 122, 123] (by decide +kernel) (by decide +kernel)
set_option maxRecDepth 20000 in
theorem gX1_carryOutFirstOrder_X1_goOn : GoodIn wsX1_carryOutFirstOrder (wsV RX1 122 RX1 yX1_goOn wsX1_goOn) := goodIn_app (goodIn_of _ (by decide +kernel)) ggX1_carryOutFirstOrder_X1_goOn
set_option maxRecDepth 20000 in
theorem ggX1_carryOutFirstOrder_X1_prop : GoodIn wsX1_carryOutFirstOrder wsX1_prop := goodIn_r _ [77, 3, 78, 5, 34, 35, 36, 9, 37, 38, 39, 40, 41, 42, 12, 24, 43, 11, 66, 67, 68, 69, 108, 109, 110, 111, 112, 113, 114, 115, 116, 117, 118, 119, 120, 121, 122, 123, 92, 93, 94, 95, 96, 97, 98, 99, 100, 101, 102, 103, 104, 105, 106, 107] (by decide +kernel) (by decide +kernel)
set_option maxRecDepth 20000 in
theorem gX1_carryOutFirstOrder_X1_prop : GoodIn wsX1_carryOutFirstOrder (wsV RX1 125 RX1 yX1_prop wsX1_prop) := goodIn_app (goodIn_of _ (by decide +kernel)) ggX1_carryOutFirstOrder_X1_prop
set_option maxRecDepth 20000 in
theorem ggX1_carryOutFirstOrder_X3_countFirstOrder : GoodIn wsX1_carryOutFirstOrder wsX3_countFirstOrder := goodIn_r _ [69, 43, 39, 40, 41, 9, 42, 12, 24, 11, 92, 93, 94, 95, 96, 97, 98, 99, 100, 101, 102, 103, 104, 105, 106, 107] (by decide +kernel) (by decide +kernel)
set_option maxRecDepth 20000 in
theorem gX1_carryOutFirstOrder_X3_countFirstOrder : GoodIn wsX1_carryOutFirstOrder (wsV RX1 131 RX3 yX3_countFirstOrder wsX3_countFirstOrder) := goodIn_app (goodIn_of _ (by decide +kernel)) ggX1_carryOutFirstOrder_X3_countFirstOrder
set_option maxRecDepth 20000 in
theorem ggX1_carryOutFirstOrder_X0_setFire : GoodIn wsX1_carryOutFirstOrder wsX0_setFire := goodIn_r _ [82, 83, 84, 85, 31, 86, 62, 65, 25, 26, 27, 87, 45, 46, 47, 48, 88, 89, 90, 91, 112, 113, 114, 115, 116, 117, 118, 119, 120, 121, 122, 123] (by decide +kernel) (by decide +kernel)
set_option maxRecDepth 20000 in
theorem gX1_carryOutFirstOrder_X0_setFire : GoodIn wsX1_carryOutFirstOrder (wsV RX1 134 RX0 yX0_setFire wsX0_setFire) := goodIn_app (goodIn_of _ (by decide +kernel)) ggX1_carryOutFirstOrder_X0_setFire
theorem dX1_carryOutFirstOrder_0 : decode cX1_carryOutFirstOrder 0 = .ok (.aload_n 1, 1) := by decide +kernel
theorem dX1_carryOutFirstOrder_1 : decode cX1_carryOutFirstOrder 1 = .ok (.invokevirtual 112, 3) := by decide +kernel
theorem dX1_carryOutFirstOrder_4 : decode cX1_carryOutFirstOrder 4 = .ok (.istore_n 2, 1) := by decide +kernel
theorem dX1_carryOutFirstOrder_5 : decode cX1_carryOutFirstOrder 5 = .ok (.iload_n 2, 1) := by decide +kernel
theorem dX1_carryOutFirstOrder_6 : decode cX1_carryOutFirstOrder 6 = .ok (.ifCond .lt 9, 3) := by decide +kernel
theorem dX1_carryOutFirstOrder_9 : decode cX1_carryOutFirstOrder 9 = .ok (.iload_n 2, 1) := by decide +kernel
theorem dX1_carryOutFirstOrder_10 : decode cX1_carryOutFirstOrder 10 = .ok (.bipush 7, 2) := by decide +kernel
theorem dX1_carryOutFirstOrder_12 : decode cX1_carryOutFirstOrder 12 = .ok (.if_icmp .lt 4, 3) := by decide +kernel
theorem dX1_carryOutFirstOrder_15 : decode cX1_carryOutFirstOrder 15 = .ok (.return_, 1) := by decide +kernel
theorem dX1_carryOutFirstOrder_16 : decode cX1_carryOutFirstOrder 16 = .ok (.aload_n 1, 1) := by decide +kernel
theorem dX1_carryOutFirstOrder_17 : decode cX1_carryOutFirstOrder 17 = .ok (.getstatic 116, 3) := by decide +kernel
theorem dX1_carryOutFirstOrder_20 : decode cX1_carryOutFirstOrder 20 = .ok (.iload_n 2, 1) := by decide +kernel
theorem dX1_carryOutFirstOrder_21 : decode cX1_carryOutFirstOrder 21 = .ok (.iaload, 1) := by decide +kernel
theorem dX1_carryOutFirstOrder_22 : decode cX1_carryOutFirstOrder 22 = .ok (.putfield 81, 3) := by decide +kernel
theorem dX1_carryOutFirstOrder_25 : decode cX1_carryOutFirstOrder 25 = .ok (.iload_n 2, 1) := by decide +kernel
theorem dX1_carryOutFirstOrder_26 : decode cX1_carryOutFirstOrder 26 = .ok (.tableswitch 113 1 6 #[38, 46, 54, 62, 74, 95], 38) := by decide +kernel
theorem dX1_carryOutFirstOrder_64 : decode cX1_carryOutFirstOrder 64 = .ok (.aload_n 0, 1) := by decide +kernel
theorem dX1_carryOutFirstOrder_65 : decode cX1_carryOutFirstOrder 65 = .ok (.aload_n 1, 1) := by decide +kernel
theorem dX1_carryOutFirstOrder_66 : decode cX1_carryOutFirstOrder 66 = .ok (.invokevirtual 119, 3) := by decide +kernel
theorem dX1_carryOutFirstOrder_69 : decode cX1_carryOutFirstOrder 69 = .ok (.goto 74, 3) := by decide +kernel
theorem dX1_carryOutFirstOrder_72 : decode cX1_carryOutFirstOrder 72 = .ok (.aload_n 0, 1) := by decide +kernel
theorem dX1_carryOutFirstOrder_73 : decode cX1_carryOutFirstOrder 73 = .ok (.aload_n 1, 1) := by decide +kernel
theorem dX1_carryOutFirstOrder_74 : decode cX1_carryOutFirstOrder 74 = .ok (.invokevirtual 122, 3) := by decide +kernel
theorem dX1_carryOutFirstOrder_77 : decode cX1_carryOutFirstOrder 77 = .ok (.goto 66, 3) := by decide +kernel
theorem dX1_carryOutFirstOrder_80 : decode cX1_carryOutFirstOrder 80 = .ok (.aload_n 0, 1) := by decide +kernel
theorem dX1_carryOutFirstOrder_81 : decode cX1_carryOutFirstOrder 81 = .ok (.aload_n 1, 1) := by decide +kernel
theorem dX1_carryOutFirstOrder_82 : decode cX1_carryOutFirstOrder 82 = .ok (.invokevirtual 125, 3) := by decide +kernel
theorem dX1_carryOutFirstOrder_85 : decode cX1_carryOutFirstOrder 85 = .ok (.goto 58, 3) := by decide +kernel
theorem dX1_carryOutFirstOrder_88 : decode cX1_carryOutFirstOrder 88 = .ok (.aload_n 1, 1) := by decide +kernel
theorem dX1_carryOutFirstOrder_89 : decode cX1_carryOutFirstOrder 89 = .ok (.iconst 1, 1) := by decide +kernel
theorem dX1_carryOutFirstOrder_90 : decode cX1_carryOutFirstOrder 90 = .ok (.putfield 128, 3) := by decide +kernel
theorem dX1_carryOutFirstOrder_93 : decode cX1_carryOutFirstOrder 93 = .ok (.aload_n 1, 1) := by decide +kernel
theorem dX1_carryOutFirstOrder_94 : decode cX1_carryOutFirstOrder 94 = .ok (.invokevirtual 131, 3) := by decide +kernel
theorem dX1_carryOutFirstOrder_97 : decode cX1_carryOutFirstOrder 97 = .ok (.goto 46, 3) := by decide +kernel
theorem dX1_carryOutFirstOrder_100 : decode cX1_carryOutFirstOrder 100 = .ok (.aload_n 0, 1) := by decide +kernel
theorem dX1_carryOutFirstOrder_101 : decode cX1_carryOutFirstOrder 101 = .ok (.getfield 12, 3) := by decide +kernel
theorem dX1_carryOutFirstOrder_104 : decode cX1_carryOutFirstOrder 104 = .ok (.getfield 84, 3) := by decide +kernel
theorem dX1_carryOutFirstOrder_107 : decode cX1_carryOutFirstOrder 107 = .ok (.aload_n 1, 1) := by decide +kernel
theorem dX1_carryOutFirstOrder_108 : decode cX1_carryOutFirstOrder 108 = .ok (.getfield 49, 3) := by decide +kernel
theorem dX1_carryOutFirstOrder_111 : decode cX1_carryOutFirstOrder 111 = .ok (.bipush 9, 2) := by decide +kernel
theorem dX1_carryOutFirstOrder_113 : decode cX1_carryOutFirstOrder 113 = .ok (.iastore, 1) := by decide +kernel
theorem dX1_carryOutFirstOrder_114 : decode cX1_carryOutFirstOrder 114 = .ok (.aload_n 1, 1) := by decide +kernel
theorem dX1_carryOutFirstOrder_115 : decode cX1_carryOutFirstOrder 115 = .ok (.invokevirtual 131, 3) := by decide +kernel
theorem dX1_carryOutFirstOrder_118 : decode cX1_carryOutFirstOrder 118 = .ok (.goto 25, 3) := by decide +kernel
theorem dX1_carryOutFirstOrder_121 : decode cX1_carryOutFirstOrder 121 = .ok (.aload_n 0, 1) := by decide +kernel
theorem dX1_carryOutFirstOrder_122 : decode cX1_carryOutFirstOrder 122 = .ok (.getfield 12, 3) := by decide +kernel
theorem dX1_carryOutFirstOrder_125 : decode cX1_carryOutFirstOrder 125 = .ok (.aload_n 1, 1) := by decide +kernel
theorem dX1_carryOutFirstOrder_126 : decode cX1_carryOutFirstOrder 126 = .ok (.getfield 49, 3) := by decide +kernel
theorem dX1_carryOutFirstOrder_129 : decode cX1_carryOutFirstOrder 129 = .ok (.invokevirtual 134, 3) := by decide +kernel
theorem dX1_carryOutFirstOrder_132 : decode cX1_carryOutFirstOrder 132 = .ok (.aload_n 1, 1) := by decide +kernel
theorem dX1_carryOutFirstOrder_133 : decode cX1_carryOutFirstOrder 133 = .ok (.invokevirtual 131, 3) := by decide +kernel
theorem dX1_carryOutFirstOrder_136 : decode cX1_carryOutFirstOrder 136 = .ok (.goto 7, 3) := by decide +kernel
theorem dX1_carryOutFirstOrder_139 : decode cX1_carryOutFirstOrder 139 = .ok (.aload_n 1, 1) := by decide +kernel
theorem dX1_carryOutFirstOrder_140 : decode cX1_carryOutFirstOrder 140 = .ok (.invokevirtual 131, 3) := by decide +kernel
theorem dX1_carryOutFirstOrder_143 : decode cX1_carryOutFirstOrder 143 = .ok (.return_, 1) := by decide +kernel
set_option maxRecDepth 20000 in
theorem ggX1_dig_X3_firstDirection : GoodIn wsX1_dig wsX3_firstDirection := goodIn_r _ [9, 10, 58, 59, 60, 61, 62, 63, 64, 65, 66, 67, 68, 69, 70, 71, 72, 73] (by decide +kernel) (by decide +kernel)
set_option maxRecDepth 20000 in
theorem gX1_dig_X3_firstDirection : GoodIn wsX1_dig (wsV RX1 137 RX3 yX3_firstDirection wsX3_firstDirection) := goodIn_app (goodIn_of _ (by decide +kernel)) ggX1_dig_X3_firstDirection
set_option maxRecDepth 20000 in
theorem ggX1_dig_X5_neighbour : GoodIn wsX1_dig wsX5_neighbour := goodIn_r _ [13] (by decide +kernel) (by decide +kernel)
set_option maxRecDepth 20000 in
theorem gX1_dig_X5_neighbour_n105 : GoodIn wsX1_dig (wsX5_neighbour) := ggX1_dig_X5_neighbour
set_option maxRecDepth 20000 in
theorem ggX1_dig_X0_isRock : GoodIn wsX1_dig wsX0_isRock := goodIn_r _ [18, 19, 78, 79, 80, 81, 82, 83, 84, 85, 86, 87, 88, 89] (by decide +kernel) (by decide +kernel)
set_option maxRecDepth 20000 in
theorem gX1_dig_X0_isRock : GoodIn wsX1_dig (wsV RX1 140 RX0 yX0_isRock wsX0_isRock) := goodIn_app (goodIn_of _ (by decide +kernel)) ggX1_dig_X0_isRock
set_option maxRecDepth 20000 in
theorem ggX1_dig_X3_missFirstOrder : GoodIn wsX1_dig wsX3_missFirstOrder := goodIn_r _ [23, 24, 25, 26, 27, 8, 28, 29, 10, 30, 31, 58, 59, 60, 61, 62, 63, 64, 65, 66, 67, 68, 69, 70, 71, 72, 73] (by decide +kernel) (by decide +kernel)
set_option maxRecDepth 20000 in
theorem gX1_dig_X3_missFirstOrder : GoodIn wsX1_dig (wsV RX1 143 RX3 yX3_missFirstOrder wsX3_missFirstOrder) := goodIn_app (goodIn_of _ (by decide +kernel)) ggX1_dig_X3_missFirstOrder
set_option maxRecDepth 20000 in
theorem ggX1_dig_X0_isTunnel : GoodIn wsX1_dig wsX0_isTunnel := goodIn_r _ [35, 36, 78, 79, 80, 81, 82, 83, 84, 85, 86, 87, 88, 89] (by decide +kernel) (by decide +kernel)
set_option maxRecDepth 20000 in
theorem gX1_dig_X0_isTunnel : GoodIn wsX1_dig (wsV RX1 109 RX0 yX0_isTunnel wsX0_isTunnel) := goodIn_app (goodIn_of _ (by decide +kernel)) ggX1_dig_X0_isTunnel
set_option maxRecDepth 20000 in
theorem ggX1_dig_X0_workLeft : GoodIn wsX1_dig wsX0_workLeft := goodIn_r _ [40, 19, 41, 78, 79, 80, 81, 82, 83, 84, 85, 86, 87, 88, 89] (by decide +kernel) (by decide +kernel)
set_option maxRecDepth 20000 in
theorem gX1_dig_X0_workLeft : GoodIn wsX1_dig (wsV RX1 152 RX0 yX0_workLeft wsX0_workLeft) := goodIn_app (goodIn_of _ (by decide +kernel)) ggX1_dig_X0_workLeft
set_option maxRecDepth 20000 in
theorem ggX1_dig_X0_openTunnel : GoodIn wsX1_dig wsX0_openTunnel := goodIn_r _ [45, 36, 46, 47, 48, 17, 49, 50, 51, 52, 41, 53, 78, 79, 80, 81, 82, 83, 84, 85, 86, 87, 88, 89] (by decide +kernel) (by decide +kernel)
set_option maxRecDepth 20000 in
theorem gX1_dig_X0_openTunnel : GoodIn wsX1_dig (wsV RX1 156 RX0 yX0_openTunnel wsX0_openTunnel) := goodIn_app (goodIn_of _ (by decide +kernel)) ggX1_dig_X0_openTunnel
set_option maxRecDepth 20000 in
theorem ggX1_dig_X3_countFirstOrder : GoodIn wsX1_dig wsX3_countFirstOrder := goodIn_r _ [57, 30, 25, 26, 27, 8, 28, 29, 10, 31, 58, 59, 60, 61, 62, 63, 64, 65, 66, 67, 68, 69, 70, 71, 72, 73] (by decide +kernel) (by decide +kernel)
set_option maxRecDepth 20000 in
theorem gX1_dig_X3_countFirstOrder : GoodIn wsX1_dig (wsV RX1 131 RX3 yX3_countFirstOrder wsX3_countFirstOrder) := goodIn_app (goodIn_of _ (by decide +kernel)) ggX1_dig_X3_countFirstOrder
theorem dX1_dig_0 : decode cX1_dig 0 = .ok (.aload_n 1, 1) := by decide +kernel
theorem dX1_dig_1 : decode cX1_dig 1 = .ok (.getfield 49, 3) := by decide +kernel
theorem dX1_dig_4 : decode cX1_dig 4 = .ok (.aload_n 1, 1) := by decide +kernel
theorem dX1_dig_5 : decode cX1_dig 5 = .ok (.invokevirtual 137, 3) := by decide +kernel
theorem dX1_dig_8 : decode cX1_dig 8 = .ok (.invokestatic 105, 3) := by decide +kernel
theorem dX1_dig_11 : decode cX1_dig 11 = .ok (.istore_n 2, 1) := by decide +kernel
theorem dX1_dig_12 : decode cX1_dig 12 = .ok (.iload_n 2, 1) := by decide +kernel
theorem dX1_dig_13 : decode cX1_dig 13 = .ok (.ifCond .lt 14, 3) := by decide +kernel
theorem dX1_dig_16 : decode cX1_dig 16 = .ok (.aload_n 0, 1) := by decide +kernel
theorem dX1_dig_17 : decode cX1_dig 17 = .ok (.getfield 12, 3) := by decide +kernel
theorem dX1_dig_20 : decode cX1_dig 20 = .ok (.iload_n 2, 1) := by decide +kernel
theorem dX1_dig_21 : decode cX1_dig 21 = .ok (.invokevirtual 140, 3) := by decide +kernel
theorem dX1_dig_24 : decode cX1_dig 24 = .ok (.ifCond .eq 8, 3) := by decide +kernel
theorem dX1_dig_27 : decode cX1_dig 27 = .ok (.aload_n 1, 1) := by decide +kernel
theorem dX1_dig_28 : decode cX1_dig 28 = .ok (.invokevirtual 143, 3) := by decide +kernel
theorem dX1_dig_31 : decode cX1_dig 31 = .ok (.return_, 1) := by decide +kernel
theorem dX1_dig_32 : decode cX1_dig 32 = .ok (.aload_n 0, 1) := by decide +kernel
theorem dX1_dig_33 : decode cX1_dig 33 = .ok (.getfield 12, 3) := by decide +kernel
theorem dX1_dig_36 : decode cX1_dig 36 = .ok (.iload_n 2, 1) := by decide +kernel
theorem dX1_dig_37 : decode cX1_dig 37 = .ok (.invokevirtual 109, 3) := by decide +kernel
theorem dX1_dig_40 : decode cX1_dig 40 = .ok (.ifCond .ne 39, 3) := by decide +kernel
theorem dX1_dig_43 : decode cX1_dig 43 = .ok (.aload_n 0, 1) := by decide +kernel
theorem dX1_dig_44 : decode cX1_dig 44 = .ok (.getfield 12, 3) := by decide +kernel
theorem dX1_dig_47 : decode cX1_dig 47 = .ok (.getfield 146, 3) := by decide +kernel
theorem dX1_dig_50 : decode cX1_dig 50 = .ok (.iload_n 2, 1) := by decide +kernel
theorem dX1_dig_51 : decode cX1_dig 51 = .ok (.dup2, 1) := by decide +kernel
theorem dX1_dig_52 : decode cX1_dig 52 = .ok (.iaload, 1) := by decide +kernel
theorem dX1_dig_53 : decode cX1_dig 53 = .ok (.aload_n 1, 1) := by decide +kernel
theorem dX1_dig_54 : decode cX1_dig 54 = .ok (.getfield 149, 3) := by decide +kernel
theorem dX1_dig_57 : decode cX1_dig 57 = .ok (.iadd, 1) := by decide +kernel
theorem dX1_dig_58 : decode cX1_dig 58 = .ok (.iastore, 1) := by decide +kernel
theorem dX1_dig_59 : decode cX1_dig 59 = .ok (.aload_n 0, 1) := by decide +kernel
theorem dX1_dig_60 : decode cX1_dig 60 = .ok (.getfield 12, 3) := by decide +kernel
theorem dX1_dig_63 : decode cX1_dig 63 = .ok (.iload_n 2, 1) := by decide +kernel
theorem dX1_dig_64 : decode cX1_dig 64 = .ok (.invokevirtual 152, 3) := by decide +kernel
theorem dX1_dig_67 : decode cX1_dig 67 = .ok (.ifCond .le 4, 3) := by decide +kernel
theorem dX1_dig_70 : decode cX1_dig 70 = .ok (.return_, 1) := by decide +kernel
theorem dX1_dig_71 : decode cX1_dig 71 = .ok (.aload_n 0, 1) := by decide +kernel
theorem dX1_dig_72 : decode cX1_dig 72 = .ok (.getfield 12, 3) := by decide +kernel
theorem dX1_dig_75 : decode cX1_dig 75 = .ok (.iload_n 2, 1) := by decide +kernel
theorem dX1_dig_76 : decode cX1_dig 76 = .ok (.invokevirtual 156, 3) := by decide +kernel
theorem dX1_dig_79 : decode cX1_dig 79 = .ok (.aload_n 1, 1) := by decide +kernel
theorem dX1_dig_80 : decode cX1_dig 80 = .ok (.iload_n 2, 1) := by decide +kernel
theorem dX1_dig_81 : decode cX1_dig 81 = .ok (.putfield 49, 3) := by decide +kernel
theorem dX1_dig_84 : decode cX1_dig 84 = .ok (.aload_n 1, 1) := by decide +kernel
theorem dX1_dig_85 : decode cX1_dig 85 = .ok (.invokevirtual 131, 3) := by decide +kernel
theorem dX1_dig_88 : decode cX1_dig 88 = .ok (.return_, 1) := by decide +kernel
set_option maxRecDepth 20000 in
theorem ggX1_goOn_X3_firstDirection : GoodIn wsX1_goOn wsX3_firstDirection := goodIn_r _ [7, 8, 34, 35, 36, 37, 38, 39, 40, 41, 42, 43, 44, 45, 46, 47, 48, 49] (by decide +kernel) (by decide +kernel)
set_option maxRecDepth 20000 in
theorem gX1_goOn_X3_firstDirection : GoodIn wsX1_goOn (wsV RX1 137 RX3 yX3_firstDirection wsX3_firstDirection) := goodIn_app (goodIn_of _ (by decide +kernel)) ggX1_goOn_X3_firstDirection
set_option maxRecDepth 20000 in
theorem ggX1_goOn_X5_neighbour : GoodIn wsX1_goOn wsX5_neighbour := goodIn_r _ [11] (by decide +kernel) (by decide +kernel)
set_option maxRecDepth 20000 in
theorem gX1_goOn_X5_neighbour_n105 : GoodIn wsX1_goOn (wsX5_neighbour) := ggX1_goOn_X5_neighbour
set_option maxRecDepth 20000 in
theorem ggX1_goOn_X0_isTunnel : GoodIn wsX1_goOn wsX0_isTunnel := goodIn_r _ [16, 17, 54, 55, 56, 57, 58, 59, 60, 61, 62, 63, 64, 65] (by decide +kernel) (by decide +kernel)
set_option maxRecDepth 20000 in
theorem gX1_goOn_X0_isTunnel : GoodIn wsX1_goOn (wsV RX1 109 RX0 yX0_isTunnel wsX0_isTunnel) := goodIn_app (goodIn_of _ (by decide +kernel)) ggX1_goOn_X0_isTunnel
set_option maxRecDepth 20000 in
theorem ggX1_goOn_X3_missFirstOrder : GoodIn wsX1_goOn wsX3_missFirstOrder := goodIn_r _ [21, 22, 23, 24, 25, 6, 26, 27, 8, 28, 29, 34, 35, 36, 37, 38, 39, 40, 41, 42, 43, 44, 45, 46, 47, 48, 49] (by decide +kernel) (by decide +kernel)
set_option maxRecDepth 20000 in
theorem gX1_goOn_X3_missFirstOrder : GoodIn wsX1_goOn (wsV RX1 143 RX3 yX3_missFirstOrder wsX3_missFirstOrder) := goodIn_app (goodIn_of _ (by decide +kernel)) ggX1_goOn_X3_missFirstOrder
set_option maxRecDepth 20000 in
theorem ggX1_goOn_X3_countFirstOrder : GoodIn wsX1_goOn wsX3_countFirstOrder := goodIn_r _ [33, 28, 23, 24, 25, 6, 26, 27, 8, 29, 34, 35, 36, 37, 38, 39, 40, 41, 42, 43, 44, 45, 46, 47, 48, 49] (by decide +kernel) (by decide +kernel)
set_option maxRecDepth 20000 in
theorem gX1_goOn_X3_countFirstOrder : GoodIn wsX1_goOn (wsV RX1 131 RX3 yX3_countFirstOrder wsX3_countFirstOrder) := goodIn_app (goodIn_of _ (by decide +kernel)) ggX1_goOn_X3_countFirstOrder
theorem dX1_goOn_0 : decode cX1_goOn 0 = .ok (.aload_n 1, 1) := by decide +kernel
theorem dX1_goOn_1 : decode cX1_goOn 1 = .ok (.getfield 49, 3) := by decide +kernel
theorem dX1_goOn_4 : decode cX1_goOn 4 = .ok (.aload_n 1, 1) := by decide +kernel
theorem dX1_goOn_5 : decode cX1_goOn 5 = .ok (.invokevirtual 137, 3) := by decide +kernel
theorem dX1_goOn_8 : decode cX1_goOn 8 = .ok (.invokestatic 105, 3) := by decide +kernel
theorem dX1_goOn_11 : decode cX1_goOn 11 = .ok (.istore_n 2, 1) := by decide +kernel
theorem dX1_goOn_12 : decode cX1_goOn 12 = .ok (.iload_n 2, 1) := by decide +kernel
theorem dX1_goOn_13 : decode cX1_goOn 13 = .ok (.ifCond .lt 14, 3) := by decide +kernel
theorem dX1_goOn_16 : decode cX1_goOn 16 = .ok (.aload_n 0, 1) := by decide +kernel
theorem dX1_goOn_17 : decode cX1_goOn 17 = .ok (.getfield 12, 3) := by decide +kernel
theorem dX1_goOn_20 : decode cX1_goOn 20 = .ok (.iload_n 2, 1) := by decide +kernel
theorem dX1_goOn_21 : decode cX1_goOn 21 = .ok (.invokevirtual 109, 3) := by decide +kernel
theorem dX1_goOn_24 : decode cX1_goOn 24 = .ok (.ifCond .ne 8, 3) := by decide +kernel
theorem dX1_goOn_27 : decode cX1_goOn 27 = .ok (.aload_n 1, 1) := by decide +kernel
theorem dX1_goOn_28 : decode cX1_goOn 28 = .ok (.invokevirtual 143, 3) := by decide +kernel
theorem dX1_goOn_31 : decode cX1_goOn 31 = .ok (.return_, 1) := by decide +kernel
theorem dX1_goOn_32 : decode cX1_goOn 32 = .ok (.aload_n 1, 1) := by decide +kernel
theorem dX1_goOn_33 : decode cX1_goOn 33 = .ok (.iload_n 2, 1) := by decide +kernel
theorem dX1_goOn_34 : decode cX1_goOn 34 = .ok (.putfield 49, 3) := by decide +kernel
theorem dX1_goOn_37 : decode cX1_goOn 37 = .ok (.aload_n 1, 1) := by decide +kernel
theorem dX1_goOn_38 : decode cX1_goOn 38 = .ok (.invokevirtual 131, 3) := by decide +kernel
theorem dX1_goOn_41 : decode cX1_goOn 41 = .ok (.return_, 1) := by decide +kernel
set_option maxRecDepth 20000 in
theorem ggX1_prop_X3_missFirstOrder : GoodIn wsX1_prop wsX3_missFirstOrder := goodIn_r _ [8, 9, 10, 11, 12, 7, 13, 14, 15, 16, 17, 38, 39, 40, 41, 42, 43, 44, 45, 46, 47, 48, 49, 50, 51, 52, 53] (by decide +kernel) (by decide +kernel)
set_option maxRecDepth 20000 in
theorem gX1_prop_X3_missFirstOrder : GoodIn wsX1_prop (wsV RX1 143 RX3 yX3_missFirstOrder wsX3_missFirstOrder) := goodIn_app (goodIn_of _ (by decide +kernel)) ggX1_prop_X3_missFirstOrder
set_option maxRecDepth 20000 in
theorem ggX1_prop_X3_countFirstOrder : GoodIn wsX1_prop wsX3_countFirstOrder := goodIn_r _ [21, 16, 10, 11, 12, 7, 13, 14, 15, 17, 38, 39, 40, 41, 42, 43, 44, 45, 46, 47, 48, 49, 50, 51, 52, 53] (by decide +kernel) (by decide +kernel)
set_option maxRecDepth 20000 in
theorem gX1_prop_X3_countFirstOrder : GoodIn wsX1_prop (wsV RX1 131 RX3 yX3_countFirstOrder wsX3_countFirstOrder) := goodIn_app (goodIn_of _ (by decide +kernel)) ggX1_prop_X3_countFirstOrder
theorem dX1_prop_0 : decode cX1_prop 0 = .ok (.aload_n 0, 1) := by decide +kernel
theorem dX1_prop_1 : decode cX1_prop 1 = .ok (.getfield 12, 3) := by decide +kernel
theorem dX1_prop_4 : decode cX1_prop 4 = .ok (.getfield 159, 3) := by decide +kernel
theorem dX1_prop_7 : decode cX1_prop 7 = .ok (.aload_n 1, 1) := by decide +kernel
theorem dX1_prop_8 : decode cX1_prop 8 = .ok (.getfield 49, 3) := by decide +kernel
theorem dX1_prop_11 : decode cX1_prop 11 = .ok (.iaload, 1) := by decide +kernel
theorem dX1_prop_12 : decode cX1_prop 12 = .ok (.iconst 3, 1) := by decide +kernel
theorem dX1_prop_13 : decode cX1_prop 13 = .ok (.if_icmp .lt 8, 3) := by decide +kernel
theorem dX1_prop_16 : decode cX1_prop 16 = .ok (.aload_n 1, 1) := by decide +kernel
theorem dX1_prop_17 : decode cX1_prop 17 = .ok (.invokevirtual 143, 3) := by decide +kernel
theorem dX1_prop_20 : decode cX1_prop 20 = .ok (.return_, 1) := by decide +kernel
theorem dX1_prop_21 : decode cX1_prop 21 = .ok (.aload_n 0, 1) := by decide +kernel
theorem dX1_prop_22 : decode cX1_prop 22 = .ok (.getfield 12, 3) := by decide +kernel
theorem dX1_prop_25 : decode cX1_prop 25 = .ok (.getfield 159, 3) := by decide +kernel
theorem dX1_prop_28 : decode cX1_prop 28 = .ok (.aload_n 1, 1) := by decide +kernel
theorem dX1_prop_29 : decode cX1_prop 29 = .ok (.getfield 49, 3) := by decide +kernel
theorem dX1_prop_32 : decode cX1_prop 32 = .ok (.dup2, 1) := by decide +kernel
theorem dX1_prop_33 : decode cX1_prop 33 = .ok (.iaload, 1) := by decide +kernel
theorem dX1_prop_34 : decode cX1_prop 34 = .ok (.iconst 1, 1) := by decide +kernel
theorem dX1_prop_35 : decode cX1_prop 35 = .ok (.iadd, 1) := by decide +kernel
theorem dX1_prop_36 : decode cX1_prop 36 = .ok (.iastore, 1) := by decide +kernel
theorem dX1_prop_37 : decode cX1_prop 37 = .ok (.aload_n 1, 1) := by decide +kernel
theorem dX1_prop_38 : decode cX1_prop 38 = .ok (.invokevirtual 131, 3) := by decide +kernel
theorem dX1_prop_41 : decode cX1_prop 41 = .ok (.return_, 1) := by decide +kernel
set_option maxRecDepth 20000 in
theorem ggX1_fightAll_X1_fightingEnemies : GoodIn wsX1_fightAll wsX1_fightingEnemies := goodIn_r _ [13, 1, 2, 14, 3, 15, 16, 17, 18, 19, 20, 21, 22, 23, 24, 25, 26, 6, 27, 36, 37, 38, 39, 40, 41, 42, 43, 44, 45, 46, 47, 48, 49, 50, 51, 52, 53, 54, 55] (by decide +kernel) (by decide +kernel)
set_option maxRecDepth 20000 in
theorem gX1_fightAll_X1_fightingEnemies : GoodIn wsX1_fightAll (wsV RX1 162 RX1 yX1_fightingEnemies wsX1_fightingEnemies) := goodIn_app (goodIn_of _ (by decide +kernel)) ggX1_fightAll_X1_fightingEnemies
set_option maxRecDepth 20000 in
theorem ggX1_fightAll_X3_loseHealth : GoodIn wsX1_fightAll wsX3_loseHealth := goodIn_r _ [31, 32, 33, 34, 6, 35, 40, 41, 42, 43, 44, 45, 46, 47, 48, 49, 50, 51, 52, 53, 54, 55] (by decide +kernel) (by decide +kernel)
set_option maxRecDepth 20000 in
theorem gX1_fightAll_X3_loseHealth : GoodIn wsX1_fightAll (wsV RX1 101 RX3 yX3_loseHealth wsX3_loseHealth) := goodIn_app (goodIn_of _ (by decide +kernel)) ggX1_fightAll_X3_loseHealth
theorem dX1_fightAll_0 : decode cX1_fightAll 0 = .ok (.iconst 0, 1) := by decide +kernel
theorem dX1_fightAll_1 : decode cX1_fightAll 1 = .ok (.istore_n 1, 1) := by decide +kernel
theorem dX1_fightAll_2 : decode cX1_fightAll 2 = .ok (.iload_n 1, 1) := by decide +kernel
theorem dX1_fightAll_3 : decode cX1_fightAll 3 = .ok (.aload_n 0, 1) := by decide +kernel
theorem dX1_fightAll_4 : decode cX1_fightAll 4 = .ok (.getfield 24, 3) := by decide +kernel
theorem dX1_fightAll_7 : decode cX1_fightAll 7 = .ok (.if_icmp .ge 44, 3) := by decide +kernel
theorem dX1_fightAll_10 : decode cX1_fightAll 10 = .ok (.aload_n 0, 1) := by decide +kernel
theorem dX1_fightAll_11 : decode cX1_fightAll 11 = .ok (.getfield 20, 3) := by decide +kernel
theorem dX1_fightAll_14 : decode cX1_fightAll 14 = .ok (.iload_n 1, 1) := by decide +kernel
theorem dX1_fightAll_15 : decode cX1_fightAll 15 = .ok (.aaload, 1) := by decide +kernel
theorem dX1_fightAll_16 : decode cX1_fightAll 16 = .ok (.getfield 77, 3) := by decide +kernel
theorem dX1_fightAll_19 : decode cX1_fightAll 19 = .ok (.ifCond .eq 26, 3) := by decide +kernel
theorem dX1_fightAll_22 : decode cX1_fightAll 22 = .ok (.aload_n 0, 1) := by decide +kernel
theorem dX1_fightAll_23 : decode cX1_fightAll 23 = .ok (.getfield 20, 3) := by decide +kernel
theorem dX1_fightAll_26 : decode cX1_fightAll 26 = .ok (.iload_n 1, 1) := by decide +kernel
theorem dX1_fightAll_27 : decode cX1_fightAll 27 = .ok (.aaload, 1) := by decide +kernel
theorem dX1_fightAll_28 : decode cX1_fightAll 28 = .ok (.iconst 3, 1) := by decide +kernel
theorem dX1_fightAll_29 : decode cX1_fightAll 29 = .ok (.aload_n 0, 1) := by decide +kernel
theorem dX1_fightAll_30 : decode cX1_fightAll 30 = .ok (.aload_n 0, 1) := by decide +kernel
theorem dX1_fightAll_31 : decode cX1_fightAll 31 = .ok (.getfield 20, 3) := by decide +kernel
theorem dX1_fightAll_34 : decode cX1_fightAll 34 = .ok (.iload_n 1, 1) := by decide +kernel
theorem dX1_fightAll_35 : decode cX1_fightAll 35 = .ok (.aaload, 1) := by decide +kernel
theorem dX1_fightAll_36 : decode cX1_fightAll 36 = .ok (.invokevirtual 162, 3) := by decide +kernel
theorem dX1_fightAll_39 : decode cX1_fightAll 39 = .ok (.invokestatic 166, 3) := by decide +kernel
theorem dX1_fightAll_42 : decode cX1_fightAll 42 = .ok (.putfield 171, 3) := by decide +kernel
theorem dX1_fightAll_45 : decode cX1_fightAll 45 = .ok (.iinc 1 1, 3) := by decide +kernel
theorem dX1_fightAll_48 : decode cX1_fightAll 48 = .ok (.goto (-46), 3) := by decide +kernel
theorem dX1_fightAll_51 : decode cX1_fightAll 51 = .ok (.iconst 0, 1) := by decide +kernel
theorem dX1_fightAll_52 : decode cX1_fightAll 52 = .ok (.istore_n 1, 1) := by decide +kernel
theorem dX1_fightAll_53 : decode cX1_fightAll 53 = .ok (.iload_n 1, 1) := by decide +kernel
theorem dX1_fightAll_54 : decode cX1_fightAll 54 = .ok (.aload_n 0, 1) := by decide +kernel
theorem dX1_fightAll_55 : decode cX1_fightAll 55 = .ok (.getfield 24, 3) := by decide +kernel
theorem dX1_fightAll_58 : decode cX1_fightAll 58 = .ok (.if_icmp .ge 27, 3) := by decide +kernel
theorem dX1_fightAll_61 : decode cX1_fightAll 61 = .ok (.aload_n 0, 1) := by decide +kernel
theorem dX1_fightAll_62 : decode cX1_fightAll 62 = .ok (.getfield 20, 3) := by decide +kernel
theorem dX1_fightAll_65 : decode cX1_fightAll 65 = .ok (.iload_n 1, 1) := by decide +kernel
theorem dX1_fightAll_66 : decode cX1_fightAll 66 = .ok (.aaload, 1) := by decide +kernel
theorem dX1_fightAll_67 : decode cX1_fightAll 67 = .ok (.aload_n 0, 1) := by decide +kernel
theorem dX1_fightAll_68 : decode cX1_fightAll 68 = .ok (.getfield 20, 3) := by decide +kernel
theorem dX1_fightAll_71 : decode cX1_fightAll 71 = .ok (.iload_n 1, 1) := by decide +kernel
theorem dX1_fightAll_72 : decode cX1_fightAll 72 = .ok (.aaload, 1) := by decide +kernel
theorem dX1_fightAll_73 : decode cX1_fightAll 73 = .ok (.getfield 171, 3) := by decide +kernel
theorem dX1_fightAll_76 : decode cX1_fightAll 76 = .ok (.invokevirtual 101, 3) := by decide +kernel
theorem dX1_fightAll_79 : decode cX1_fightAll 79 = .ok (.iinc 1 1, 3) := by decide +kernel
theorem dX1_fightAll_82 : decode cX1_fightAll 82 = .ok (.goto (-29), 3) := by decide +kernel
theorem dX1_fightAll_85 : decode cX1_fightAll 85 = .ok (.return_, 1) := by decide +kernel
set_option maxRecDepth 20000 in
theorem ggX1_fightingEnemies_X3_isNear : GoodIn wsX1_fightingEnemies wsX3_isNear := goodIn_r _ [10, 11, 12, 13, 14, 15, 16, 17, 18, 23, 24, 25, 26, 27, 28, 29, 30, 31, 32, 33, 34, 35, 36, 37, 38] (by decide +kernel) (by decide +kernel)
set_option maxRecDepth 20000 in
theorem gX1_fightingEnemies_X3_isNear : GoodIn wsX1_fightingEnemies (wsV RX1 97 RX3 yX3_isNear wsX3_isNear) := goodIn_app (goodIn_of _ (by decide +kernel)) ggX1_fightingEnemies_X3_isNear
theorem dX1_fightingEnemies_0 : decode cX1_fightingEnemies 0 = .ok (.iconst 0, 1) := by decide +kernel
theorem dX1_fightingEnemies_1 : decode cX1_fightingEnemies 1 = .ok (.istore_n 2, 1) := by decide +kernel
theorem dX1_fightingEnemies_2 : decode cX1_fightingEnemies 2 = .ok (.iconst 0, 1) := by decide +kernel
theorem dX1_fightingEnemies_3 : decode cX1_fightingEnemies 3 = .ok (.istore_n 3, 1) := by decide +kernel
theorem dX1_fightingEnemies_4 : decode cX1_fightingEnemies 4 = .ok (.iload_n 3, 1) := by decide +kernel
theorem dX1_fightingEnemies_5 : decode cX1_fightingEnemies 5 = .ok (.aload_n 0, 1) := by decide +kernel
theorem dX1_fightingEnemies_6 : decode cX1_fightingEnemies 6 = .ok (.getfield 24, 3) := by decide +kernel
theorem dX1_fightingEnemies_9 : decode cX1_fightingEnemies 9 = .ok (.if_icmp .ge 52, 3) := by decide +kernel
theorem dX1_fightingEnemies_12 : decode cX1_fightingEnemies 12 = .ok (.aload_n 0, 1) := by decide +kernel
theorem dX1_fightingEnemies_13 : decode cX1_fightingEnemies 13 = .ok (.getfield 20, 3) := by decide +kernel
theorem dX1_fightingEnemies_16 : decode cX1_fightingEnemies 16 = .ok (.iload_n 3, 1) := by decide +kernel
theorem dX1_fightingEnemies_17 : decode cX1_fightingEnemies 17 = .ok (.aaload, 1) := by decide +kernel
theorem dX1_fightingEnemies_18 : decode cX1_fightingEnemies 18 = .ok (.astore 4, 2) := by decide +kernel
theorem dX1_fightingEnemies_20 : decode cX1_fightingEnemies 20 = .ok (.aload 4, 2) := by decide +kernel
theorem dX1_fightingEnemies_22 : decode cX1_fightingEnemies 22 = .ok (.getfield 39, 3) := by decide +kernel
theorem dX1_fightingEnemies_25 : decode cX1_fightingEnemies 25 = .ok (.aload_n 1, 1) := by decide +kernel
theorem dX1_fightingEnemies_26 : decode cX1_fightingEnemies 26 = .ok (.getfield 39, 3) := by decide +kernel
theorem dX1_fightingEnemies_29 : decode cX1_fightingEnemies 29 = .ok (.if_icmp .eq 26, 3) := by decide +kernel
theorem dX1_fightingEnemies_32 : decode cX1_fightingEnemies 32 = .ok (.aload 4, 2) := by decide +kernel
theorem dX1_fightingEnemies_34 : decode cX1_fightingEnemies 34 = .ok (.getfield 77, 3) := by decide +kernel
theorem dX1_fightingEnemies_37 : decode cX1_fightingEnemies 37 = .ok (.ifCond .eq 18, 3) := by decide +kernel
theorem dX1_fightingEnemies_40 : decode cX1_fightingEnemies 40 = .ok (.aload_n 1, 1) := by decide +kernel
theorem dX1_fightingEnemies_41 : decode cX1_fightingEnemies 41 = .ok (.aload 4, 2) := by decide +kernel
theorem dX1_fightingEnemies_43 : decode cX1_fightingEnemies 43 = .ok (.getfield 49, 3) := by decide +kernel
theorem dX1_fightingEnemies_46 : decode cX1_fightingEnemies 46 = .ok (.invokevirtual 97, 3) := by decide +kernel
theorem dX1_fightingEnemies_49 : decode cX1_fightingEnemies 49 = .ok (.ifCond .eq 6, 3) := by decide +kernel
theorem dX1_fightingEnemies_52 : decode cX1_fightingEnemies 52 = .ok (.iinc 2 1, 3) := by decide +kernel
theorem dX1_fightingEnemies_55 : decode cX1_fightingEnemies 55 = .ok (.iinc 3 1, 3) := by decide +kernel
theorem dX1_fightingEnemies_58 : decode cX1_fightingEnemies 58 = .ok (.goto (-54), 3) := by decide +kernel
theorem dX1_fightingEnemies_61 : decode cX1_fightingEnemies 61 = .ok (.iload_n 2, 1) := by decide +kernel
theorem dX1_fightingEnemies_62 : decode cX1_fightingEnemies 62 = .ok (.ireturn, 1) := by decide +kernel
set_option maxRecDepth 20000 in
theorem ggX1_listenAll_X3_isGone : GoodIn wsX1_listenAll wsX3_isGone := goodIn_r _ [8, 9, 41, 42, 43, 44, 45, 46, 47, 48, 49, 50, 51, 52, 53, 54, 55, 56] (by decide +kernel) (by decide +kernel)
set_option maxRecDepth 20000 in
theorem gX1_listenAll_X3_isGone : GoodIn wsX1_listenAll (wsV RX1 42 RX3 yX3_isGone wsX3_isGone) := goodIn_app (goodIn_of _ (by decide +kernel)) ggX1_listenAll_X3_isGone
set_option maxRecDepth 20000 in
theorem ggX1_listenAll_X1_listen : GoodIn wsX1_listenAll wsX1_listen := goodIn_r _ [14, 1, 2, 15, 16, 17, 18, 19, 20, 21, 22, 23, 24, 25, 26, 27, 13, 28, 29, 30, 31, 32, 7, 33, 34, 35, 36, 37, 38, 39, 40, 41, 42, 43, 44, 45, 46, 47, 48, 49, 50, 51, 52, 53, 54, 55, 56] (by decide +kernel) (by decide +kernel)
set_option maxRecDepth 20000 in
theorem gX1_listenAll_X1_listen : GoodIn wsX1_listenAll (wsV RX1 174 RX1 yX1_listen wsX1_listen) := goodIn_app (goodIn_of _ (by decide +kernel)) ggX1_listenAll_X1_listen
theorem dX1_listenAll_0 : decode cX1_listenAll 0 = .ok (.iconst 0, 1) := by decide +kernel
theorem dX1_listenAll_1 : decode cX1_listenAll 1 = .ok (.istore_n 1, 1) := by decide +kernel
theorem dX1_listenAll_2 : decode cX1_listenAll 2 = .ok (.iload_n 1, 1) := by decide +kernel
theorem dX1_listenAll_3 : decode cX1_listenAll 3 = .ok (.aload_n 0, 1) := by decide +kernel
theorem dX1_listenAll_4 : decode cX1_listenAll 4 = .ok (.getfield 24, 3) := by decide +kernel
theorem dX1_listenAll_7 : decode cX1_listenAll 7 = .ok (.if_icmp .ge 43, 3) := by decide +kernel
theorem dX1_listenAll_10 : decode cX1_listenAll 10 = .ok (.aload_n 0, 1) := by decide +kernel
theorem dX1_listenAll_11 : decode cX1_listenAll 11 = .ok (.getfield 20, 3) := by decide +kernel
theorem dX1_listenAll_14 : decode cX1_listenAll 14 = .ok (.iload_n 1, 1) := by decide +kernel
theorem dX1_listenAll_15 : decode cX1_listenAll 15 = .ok (.aaload, 1) := by decide +kernel
theorem dX1_listenAll_16 : decode cX1_listenAll 16 = .ok (.getfield 128, 3) := by decide +kernel
theorem dX1_listenAll_19 : decode cX1_listenAll 19 = .ok (.ifCond .eq 25, 3) := by decide +kernel
theorem dX1_listenAll_22 : decode cX1_listenAll 22 = .ok (.aload_n 0, 1) := by decide +kernel
theorem dX1_listenAll_23 : decode cX1_listenAll 23 = .ok (.getfield 20, 3) := by decide +kernel
theorem dX1_listenAll_26 : decode cX1_listenAll 26 = .ok (.iload_n 1, 1) := by decide +kernel
theorem dX1_listenAll_27 : decode cX1_listenAll 27 = .ok (.aaload, 1) := by decide +kernel
theorem dX1_listenAll_28 : decode cX1_listenAll 28 = .ok (.invokevirtual 42, 3) := by decide +kernel
theorem dX1_listenAll_31 : decode cX1_listenAll 31 = .ok (.ifCond .ne 13, 3) := by decide +kernel
theorem dX1_listenAll_34 : decode cX1_listenAll 34 = .ok (.aload_n 0, 1) := by decide +kernel
theorem dX1_listenAll_35 : decode cX1_listenAll 35 = .ok (.aload_n 0, 1) := by decide +kernel
theorem dX1_listenAll_36 : decode cX1_listenAll 36 = .ok (.getfield 20, 3) := by decide +kernel
theorem dX1_listenAll_39 : decode cX1_listenAll 39 = .ok (.iload_n 1, 1) := by decide +kernel
theorem dX1_listenAll_40 : decode cX1_listenAll 40 = .ok (.aaload, 1) := by decide +kernel
theorem dX1_listenAll_41 : decode cX1_listenAll 41 = .ok (.invokevirtual 174, 3) := by decide +kernel
theorem dX1_listenAll_44 : decode cX1_listenAll 44 = .ok (.iinc 1 1, 3) := by decide +kernel
theorem dX1_listenAll_47 : decode cX1_listenAll 47 = .ok (.goto (-45), 3) := by decide +kernel
theorem dX1_listenAll_50 : decode cX1_listenAll 50 = .ok (.return_, 1) := by decide +kernel
set_option maxRecDepth 20000 in
theorem ggX1_listen_X5_distance : GoodIn wsX1_listen wsX5_distance := goodIn_r _ [9, 10, 11, 12, 13] (by decide +kernel) (by decide +kernel)
set_option maxRecDepth 20000 in
theorem gX1_listen_X5_distance_n177 : GoodIn wsX1_listen (wsX5_distance) := ggX1_listen_X5_distance
set_option maxRecDepth 20000 in
theorem ggX1_listen_X1_directionTo : GoodIn wsX1_listen wsX1_directionTo := goodIn_r _ [17, 18, 11, 12, 13] (by decide +kernel) (by decide +kernel)
set_option maxRecDepth 20000 in
theorem gX1_listen_X1_directionTo : GoodIn wsX1_listen (va_wsS RX1 180 yX1_directionTo wsX1_directionTo) := goodIn_app (goodIn_of _ (by decide +kernel)) ggX1_listen_X1_directionTo
set_option maxRecDepth 20000 in
theorem ggX1_listen_X3_remember : GoodIn wsX1_listen wsX3_remember := goodIn_r _ [23, 24, 25, 26, 31, 32, 33, 34, 35, 36, 37, 38, 39, 40, 41, 42, 43, 44, 45, 46] (by decide +kernel) (by decide +kernel)
set_option maxRecDepth 20000 in
theorem gX1_listen_X3_remember : GoodIn wsX1_listen (wsV RX1 183 RX3 yX3_remember wsX3_remember) := goodIn_app (goodIn_of _ (by decide +kernel)) ggX1_listen_X3_remember
theorem dX1_listen_0 : decode cX1_listen 0 = .ok (.iconst 0, 1) := by decide +kernel
theorem dX1_listen_1 : decode cX1_listen 1 = .ok (.istore_n 2, 1) := by decide +kernel
theorem dX1_listen_2 : decode cX1_listen 2 = .ok (.iconst (-1), 1) := by decide +kernel
theorem dX1_listen_3 : decode cX1_listen 3 = .ok (.istore_n 3, 1) := by decide +kernel
theorem dX1_listen_4 : decode cX1_listen 4 = .ok (.iconst 0, 1) := by decide +kernel
theorem dX1_listen_5 : decode cX1_listen 5 = .ok (.istore 4, 2) := by decide +kernel
theorem dX1_listen_7 : decode cX1_listen 7 = .ok (.iload 4, 2) := by decide +kernel
theorem dX1_listen_9 : decode cX1_listen 9 = .ok (.aload_n 0, 1) := by decide +kernel
theorem dX1_listen_10 : decode cX1_listen 10 = .ok (.getfield 24, 3) := by decide +kernel
theorem dX1_listen_13 : decode cX1_listen 13 = .ok (.if_icmp .ge 77, 3) := by decide +kernel
theorem dX1_listen_16 : decode cX1_listen 16 = .ok (.aload_n 0, 1) := by decide +kernel
theorem dX1_listen_17 : decode cX1_listen 17 = .ok (.getfield 20, 3) := by decide +kernel
theorem dX1_listen_20 : decode cX1_listen 20 = .ok (.iload 4, 2) := by decide +kernel
theorem dX1_listen_22 : decode cX1_listen 22 = .ok (.aaload, 1) := by decide +kernel
theorem dX1_listen_23 : decode cX1_listen 23 = .ok (.astore 5, 2) := by decide +kernel
theorem dX1_listen_25 : decode cX1_listen 25 = .ok (.iconst 2, 1) := by decide +kernel
theorem dX1_listen_26 : decode cX1_listen 26 = .ok (.aload 5, 2) := by decide +kernel
theorem dX1_listen_28 : decode cX1_listen 28 = .ok (.getfield 81, 3) := by decide +kernel
theorem dX1_listen_31 : decode cX1_listen 31 = .ok (.imul, 1) := by decide +kernel
theorem dX1_listen_32 : decode cX1_listen 32 = .ok (.iconst 3, 1) := by decide +kernel
theorem dX1_listen_33 : decode cX1_listen 33 = .ok (.iadd, 1) := by decide +kernel
theorem dX1_listen_34 : decode cX1_listen 34 = .ok (.aload_n 1, 1) := by decide +kernel
theorem dX1_listen_35 : decode cX1_listen 35 = .ok (.getfield 49, 3) := by decide +kernel
theorem dX1_listen_38 : decode cX1_listen 38 = .ok (.aload 5, 2) := by decide +kernel
theorem dX1_listen_40 : decode cX1_listen 40 = .ok (.getfield 49, 3) := by decide +kernel
theorem dX1_listen_43 : decode cX1_listen 43 = .ok (.invokestatic 177, 3) := by decide +kernel
theorem dX1_listen_46 : decode cX1_listen 46 = .ok (.isub, 1) := by decide +kernel
theorem dX1_listen_47 : decode cX1_listen 47 = .ok (.istore 6, 2) := by decide +kernel
theorem dX1_listen_49 : decode cX1_listen 49 = .ok (.aload 5, 2) := by decide +kernel
theorem dX1_listen_51 : decode cX1_listen 51 = .ok (.getfield 39, 3) := by decide +kernel
theorem dX1_listen_54 : decode cX1_listen 54 = .ok (.aload_n 1, 1) := by decide +kernel
theorem dX1_listen_55 : decode cX1_listen 55 = .ok (.getfield 39, 3) := by decide +kernel
theorem dX1_listen_58 : decode cX1_listen 58 = .ok (.if_icmp .eq 26, 3) := by decide +kernel
theorem dX1_listen_61 : decode cX1_listen 61 = .ok (.aload 5, 2) := by decide +kernel
theorem dX1_listen_63 : decode cX1_listen 63 = .ok (.getfield 81, 3) := by decide +kernel
theorem dX1_listen_66 : decode cX1_listen 66 = .ok (.ifCond .le 18, 3) := by decide +kernel
theorem dX1_listen_69 : decode cX1_listen 69 = .ok (.iload 6, 2) := by decide +kernel
theorem dX1_listen_71 : decode cX1_listen 71 = .ok (.iload_n 2, 1) := by decide +kernel
theorem dX1_listen_72 : decode cX1_listen 72 = .ok (.if_icmp .le 12, 3) := by decide +kernel
theorem dX1_listen_75 : decode cX1_listen 75 = .ok (.iload 6, 2) := by decide +kernel
theorem dX1_listen_77 : decode cX1_listen 77 = .ok (.istore_n 2, 1) := by decide +kernel
theorem dX1_listen_78 : decode cX1_listen 78 = .ok (.aload 5, 2) := by decide +kernel
theorem dX1_listen_80 : decode cX1_listen 80 = .ok (.getfield 49, 3) := by decide +kernel
theorem dX1_listen_83 : decode cX1_listen 83 = .ok (.istore_n 3, 1) := by decide +kernel
theorem dX1_listen_84 : decode cX1_listen 84 = .ok (.iinc 4 1, 3) := by decide +kernel
theorem dX1_listen_87 : decode cX1_listen 87 = .ok (.goto (-80), 3) := by decide +kernel
theorem dX1_listen_90 : decode cX1_listen 90 = .ok (.iload_n 3, 1) := by decide +kernel
theorem dX1_listen_91 : decode cX1_listen 91 = .ok (.ifCond .lt 20, 3) := by decide +kernel
theorem dX1_listen_94 : decode cX1_listen 94 = .ok (.aload_n 1, 1) := by decide +kernel
theorem dX1_listen_95 : decode cX1_listen 95 = .ok (.aload_n 0, 1) := by decide +kernel
theorem dX1_listen_96 : decode cX1_listen 96 = .ok (.getfield 28, 3) := by decide +kernel
theorem dX1_listen_99 : decode cX1_listen 99 = .ok (.aload_n 1, 1) := by decide +kernel
theorem dX1_listen_100 : decode cX1_listen 100 = .ok (.getfield 49, 3) := by decide +kernel
theorem dX1_listen_103 : decode cX1_listen 103 = .ok (.iload_n 3, 1) := by decide +kernel
theorem dX1_listen_104 : decode cX1_listen 104 = .ok (.invokestatic 180, 3) := by decide +kernel
theorem dX1_listen_107 : decode cX1_listen 107 = .ok (.iload_n 2, 1) := by decide +kernel
theorem dX1_listen_108 : decode cX1_listen 108 = .ok (.invokevirtual 183, 3) := by decide +kernel
theorem dX1_listen_111 : decode cX1_listen 111 = .ok (.return_, 1) := by decide +kernel
theorem dX1_directionTo_0 : decode cX1_directionTo 0 = .ok (.iload_n 1, 1) := by decide +kernel
theorem dX1_directionTo_1 : decode cX1_directionTo 1 = .ok (.bipush 12, 2) := by decide +kernel
theorem dX1_directionTo_3 : decode cX1_directionTo 3 = .ok (.irem, 1) := by decide +kernel
theorem dX1_directionTo_4 : decode cX1_directionTo 4 = .ok (.iload_n 0, 1) := by decide +kernel
theorem dX1_directionTo_5 : decode cX1_directionTo 5 = .ok (.bipush 12, 2) := by decide +kernel
theorem dX1_directionTo_7 : decode cX1_directionTo 7 = .ok (.irem, 1) := by decide +kernel
theorem dX1_directionTo_8 : decode cX1_directionTo 8 = .ok (.isub, 1) := by decide +kernel
theorem dX1_directionTo_9 : decode cX1_directionTo 9 = .ok (.istore_n 2, 1) := by decide +kernel
theorem dX1_directionTo_10 : decode cX1_directionTo 10 = .ok (.iload_n 1, 1) := by decide +kernel
theorem dX1_directionTo_11 : decode cX1_directionTo 11 = .ok (.bipush 12, 2) := by decide +kernel
theorem dX1_directionTo_13 : decode cX1_directionTo 13 = .ok (.idiv, 1) := by decide +kernel
theorem dX1_directionTo_14 : decode cX1_directionTo 14 = .ok (.iload_n 0, 1) := by decide +kernel
theorem dX1_directionTo_15 : decode cX1_directionTo 15 = .ok (.bipush 12, 2) := by decide +kernel
theorem dX1_directionTo_17 : decode cX1_directionTo 17 = .ok (.idiv, 1) := by decide +kernel
theorem dX1_directionTo_18 : decode cX1_directionTo 18 = .ok (.isub, 1) := by decide +kernel
theorem dX1_directionTo_19 : decode cX1_directionTo 19 = .ok (.istore_n 3, 1) := by decide +kernel
theorem dX1_directionTo_20 : decode cX1_directionTo 20 = .ok (.iload_n 3, 1) := by decide +kernel
theorem dX1_directionTo_21 : decode cX1_directionTo 21 = .ok (.invokestatic 187, 3) := by decide +kernel
theorem dX1_directionTo_24 : decode cX1_directionTo 24 = .ok (.iload_n 2, 1) := by decide +kernel
theorem dX1_directionTo_25 : decode cX1_directionTo 25 = .ok (.invokestatic 187, 3) := by decide +kernel
theorem dX1_directionTo_28 : decode cX1_directionTo 28 = .ok (.if_icmp .lt 13, 3) := by decide +kernel
theorem dX1_directionTo_31 : decode cX1_directionTo 31 = .ok (.iload_n 3, 1) := by decide +kernel
theorem dX1_directionTo_32 : decode cX1_directionTo 32 = .ok (.ifCond .le 7, 3) := by decide +kernel
theorem dX1_directionTo_35 : decode cX1_directionTo 35 = .ok (.iconst 2, 1) := by decide +kernel
theorem dX1_directionTo_36 : decode cX1_directionTo 36 = .ok (.goto 4, 3) := by decide +kernel
theorem dX1_directionTo_39 : decode cX1_directionTo 39 = .ok (.iconst 0, 1) := by decide +kernel
theorem dX1_directionTo_40 : decode cX1_directionTo 40 = .ok (.ireturn, 1) := by decide +kernel
theorem dX1_directionTo_41 : decode cX1_directionTo 41 = .ok (.iload_n 2, 1) := by decide +kernel
theorem dX1_directionTo_42 : decode cX1_directionTo 42 = .ok (.ifCond .le 7, 3) := by decide +kernel
theorem dX1_directionTo_45 : decode cX1_directionTo 45 = .ok (.iconst 1, 1) := by decide +kernel
theorem dX1_directionTo_46 : decode cX1_directionTo 46 = .ok (.goto 4, 3) := by decide +kernel
theorem dX1_directionTo_49 : decode cX1_directionTo 49 = .ok (.iconst 3, 1) := by decide +kernel
theorem dX1_directionTo_50 : decode cX1_directionTo 50 = .ok (.ireturn, 1) := by decide +kernel
theorem dX1_buryTeams_0 : decode cX1_buryTeams 0 = .ok (.iconst 0, 1) := by decide +kernel
theorem dX1_buryTeams_1 : decode cX1_buryTeams 1 = .ok (.istore_n 1, 1) := by decide +kernel
theorem dX1_buryTeams_2 : decode cX1_buryTeams 2 = .ok (.iload_n 1, 1) := by decide +kernel
theorem dX1_buryTeams_3 : decode cX1_buryTeams 3 = .ok (.aload_n 0, 1) := by decide +kernel
theorem dX1_buryTeams_4 : decode cX1_buryTeams 4 = .ok (.getfield 24, 3) := by decide +kernel
theorem dX1_buryTeams_7 : decode cX1_buryTeams 7 = .ok (.if_icmp .ge 39, 3) := by decide +kernel
theorem dX1_buryTeams_10 : decode cX1_buryTeams 10 = .ok (.aload_n 0, 1) := by decide +kernel
theorem dX1_buryTeams_11 : decode cX1_buryTeams 11 = .ok (.getfield 12, 3) := by decide +kernel
theorem dX1_buryTeams_14 : decode cX1_buryTeams 14 = .ok (.getfield 190, 3) := by decide +kernel
theorem dX1_buryTeams_17 : decode cX1_buryTeams 17 = .ok (.aload_n 0, 1) := by decide +kernel
theorem dX1_buryTeams_18 : decode cX1_buryTeams 18 = .ok (.getfield 20, 3) := by decide +kernel
theorem dX1_buryTeams_21 : decode cX1_buryTeams 21 = .ok (.iload_n 1, 1) := by decide +kernel
theorem dX1_buryTeams_22 : decode cX1_buryTeams 22 = .ok (.aaload, 1) := by decide +kernel
theorem dX1_buryTeams_23 : decode cX1_buryTeams 23 = .ok (.getfield 49, 3) := by decide +kernel
theorem dX1_buryTeams_26 : decode cX1_buryTeams 26 = .ok (.iaload, 1) := by decide +kernel
theorem dX1_buryTeams_27 : decode cX1_buryTeams 27 = .ok (.ifCond .eq 13, 3) := by decide +kernel
theorem dX1_buryTeams_30 : decode cX1_buryTeams 30 = .ok (.aload_n 0, 1) := by decide +kernel
theorem dX1_buryTeams_31 : decode cX1_buryTeams 31 = .ok (.getfield 20, 3) := by decide +kernel
theorem dX1_buryTeams_34 : decode cX1_buryTeams 34 = .ok (.iload_n 1, 1) := by decide +kernel
theorem dX1_buryTeams_35 : decode cX1_buryTeams 35 = .ok (.aaload, 1) := by decide +kernel
theorem dX1_buryTeams_36 : decode cX1_buryTeams 36 = .ok (.iconst 0, 1) := by decide +kernel
theorem dX1_buryTeams_37 : decode cX1_buryTeams 37 = .ok (.putfield 193, 3) := by decide +kernel
theorem dX1_buryTeams_40 : decode cX1_buryTeams 40 = .ok (.iinc 1 1, 3) := by decide +kernel
theorem dX1_buryTeams_43 : decode cX1_buryTeams 43 = .ok (.goto (-41), 3) := by decide +kernel
theorem dX1_buryTeams_46 : decode cX1_buryTeams 46 = .ok (.return_, 1) := by decide +kernel
theorem dX2_init_0 : decode cX2_init 0 = .ok (.aload_n 0, 1) := by decide +kernel
theorem dX2_init_1 : decode cX2_init 1 = .ok (.invokespecial 3, 3) := by decide +kernel
theorem dX2_init_4 : decode cX2_init 4 = .ok (.aload_n 0, 1) := by decide +kernel
theorem dX2_init_5 : decode cX2_init 5 = .ok (.sipush 200, 3) := by decide +kernel
theorem dX2_init_8 : decode cX2_init 8 = .ok (.newarray .int, 2) := by decide +kernel
theorem dX2_init_10 : decode cX2_init 10 = .ok (.putfield 9, 3) := by decide +kernel
theorem dX2_init_13 : decode cX2_init 13 = .ok (.aload_n 0, 1) := by decide +kernel
theorem dX2_init_14 : decode cX2_init 14 = .ok (.iconst 0, 1) := by decide +kernel
theorem dX2_init_15 : decode cX2_init 15 = .ok (.putfield 15, 3) := by decide +kernel
theorem dX2_init_18 : decode cX2_init 18 = .ok (.return_, 1) := by decide +kernel
theorem dX2_append_0 : decode cX2_append 0 = .ok (.aload_n 0, 1) := by decide +kernel
theorem dX2_append_1 : decode cX2_append 1 = .ok (.getfield 15, 3) := by decide +kernel
theorem dX2_append_4 : decode cX2_append 4 = .ok (.ifCond .lt 15, 3) := by decide +kernel
theorem dX2_append_7 : decode cX2_append 7 = .ok (.aload_n 0, 1) := by decide +kernel
theorem dX2_append_8 : decode cX2_append 8 = .ok (.getfield 15, 3) := by decide +kernel
theorem dX2_append_11 : decode cX2_append 11 = .ok (.iconst 4, 1) := by decide +kernel
theorem dX2_append_12 : decode cX2_append 12 = .ok (.iadd, 1) := by decide +kernel
theorem dX2_append_13 : decode cX2_append 13 = .ok (.sipush 200, 3) := by decide +kernel
theorem dX2_append_16 : decode cX2_append 16 = .ok (.if_icmp .le 4, 3) := by decide +kernel
theorem dX2_append_19 : decode cX2_append 19 = .ok (.return_, 1) := by decide +kernel
theorem dX2_append_20 : decode cX2_append 20 = .ok (.iconst 0, 1) := by decide +kernel
theorem dX2_append_21 : decode cX2_append 21 = .ok (.istore_n 2, 1) := by decide +kernel
theorem dX2_append_22 : decode cX2_append 22 = .ok (.iload_n 2, 1) := by decide +kernel
theorem dX2_append_23 : decode cX2_append 23 = .ok (.iconst 4, 1) := by decide +kernel
theorem dX2_append_24 : decode cX2_append 24 = .ok (.if_icmp .ge 41, 3) := by decide +kernel
theorem dX2_append_27 : decode cX2_append 27 = .ok (.aload_n 0, 1) := by decide +kernel
theorem dX2_append_28 : decode cX2_append 28 = .ok (.getfield 9, 3) := by decide +kernel
theorem dX2_append_31 : decode cX2_append 31 = .ok (.aload_n 0, 1) := by decide +kernel
theorem dX2_append_32 : decode cX2_append 32 = .ok (.getfield 15, 3) := by decide +kernel
theorem dX2_append_35 : decode cX2_append 35 = .ok (.iload_n 1, 1) := by decide +kernel
theorem dX2_append_36 : decode cX2_append 36 = .ok (.bipush 24, 2) := by decide +kernel
theorem dX2_append_38 : decode cX2_append 38 = .ok (.bipush 8, 2) := by decide +kernel
theorem dX2_append_40 : decode cX2_append 40 = .ok (.iload_n 2, 1) := by decide +kernel
theorem dX2_append_41 : decode cX2_append 41 = .ok (.imul, 1) := by decide +kernel
theorem dX2_append_42 : decode cX2_append 42 = .ok (.isub, 1) := by decide +kernel
theorem dX2_append_43 : decode cX2_append 43 = .ok (.iushr, 1) := by decide +kernel
theorem dX2_append_44 : decode cX2_append 44 = .ok (.sipush 255, 3) := by decide +kernel
theorem dX2_append_47 : decode cX2_append 47 = .ok (.iand, 1) := by decide +kernel
theorem dX2_append_48 : decode cX2_append 48 = .ok (.iastore, 1) := by decide +kernel
theorem dX2_append_49 : decode cX2_append 49 = .ok (.aload_n 0, 1) := by decide +kernel
theorem dX2_append_50 : decode cX2_append 50 = .ok (.dup, 1) := by decide +kernel
theorem dX2_append_51 : decode cX2_append 51 = .ok (.getfield 15, 3) := by decide +kernel
theorem dX2_append_54 : decode cX2_append 54 = .ok (.iconst 1, 1) := by decide +kernel
theorem dX2_append_55 : decode cX2_append 55 = .ok (.iadd, 1) := by decide +kernel
theorem dX2_append_56 : decode cX2_append 56 = .ok (.putfield 15, 3) := by decide +kernel
theorem dX2_append_59 : decode cX2_append 59 = .ok (.iinc 2 1, 3) := by decide +kernel
theorem dX2_append_62 : decode cX2_append 62 = .ok (.goto (-40), 3) := by decide +kernel
theorem dX2_append_65 : decode cX2_append 65 = .ok (.return_, 1) := by decide +kernel
set_option maxRecDepth 20000 in
theorem ggX2_placeOfError_X2_fits : GoodIn wsX2_placeOfError wsX2_fits := goodIn_r _ [6, 7, 8, 9] (by decide +kernel) (by decide +kernel)
set_option maxRecDepth 20000 in
theorem gX2_placeOfError_X2_fits : GoodIn wsX2_placeOfError (wsV RX2 19 RX2 yX2_fits wsX2_fits) := goodIn_app (goodIn_of _ (by decide +kernel)) ggX2_placeOfError_X2_fits
theorem dX2_placeOfError_0 : decode cX2_placeOfError 0 = .ok (.iconst 0, 1) := by decide +kernel
theorem dX2_placeOfError_1 : decode cX2_placeOfError 1 = .ok (.istore_n 1, 1) := by decide +kernel
theorem dX2_placeOfError_2 : decode cX2_placeOfError 2 = .ok (.iload_n 1, 1) := by decide +kernel
theorem dX2_placeOfError_3 : decode cX2_placeOfError 3 = .ok (.aload_n 0, 1) := by decide +kernel
theorem dX2_placeOfError_4 : decode cX2_placeOfError 4 = .ok (.getfield 15, 3) := by decide +kernel
theorem dX2_placeOfError_7 : decode cX2_placeOfError 7 = .ok (.if_icmp .ge 19, 3) := by decide +kernel
theorem dX2_placeOfError_10 : decode cX2_placeOfError 10 = .ok (.aload_n 0, 1) := by decide +kernel
theorem dX2_placeOfError_11 : decode cX2_placeOfError 11 = .ok (.iload_n 1, 1) := by decide +kernel
theorem dX2_placeOfError_12 : decode cX2_placeOfError 12 = .ok (.invokevirtual 19, 3) := by decide +kernel
theorem dX2_placeOfError_15 : decode cX2_placeOfError 15 = .ok (.ifCond .ne 5, 3) := by decide +kernel
theorem dX2_placeOfError_18 : decode cX2_placeOfError 18 = .ok (.iload_n 1, 1) := by decide +kernel
theorem dX2_placeOfError_19 : decode cX2_placeOfError 19 = .ok (.ireturn, 1) := by decide +kernel
theorem dX2_placeOfError_20 : decode cX2_placeOfError 20 = .ok (.iinc 1 1, 3) := by decide +kernel
theorem dX2_placeOfError_23 : decode cX2_placeOfError 23 = .ok (.goto (-21), 3) := by decide +kernel
theorem dX2_placeOfError_26 : decode cX2_placeOfError 26 = .ok (.aload_n 0, 1) := by decide +kernel
theorem dX2_placeOfError_27 : decode cX2_placeOfError 27 = .ok (.getfield 15, 3) := by decide +kernel
theorem dX2_placeOfError_30 : decode cX2_placeOfError 30 = .ok (.sipush 156, 3) := by decide +kernel
theorem dX2_placeOfError_33 : decode cX2_placeOfError 33 = .ok (.if_icmp .ge 10, 3) := by decide +kernel
theorem dX2_placeOfError_36 : decode cX2_placeOfError 36 = .ok (.aload_n 0, 1) := by decide +kernel
theorem dX2_placeOfError_37 : decode cX2_placeOfError 37 = .ok (.getfield 15, 3) := by decide +kernel
theorem dX2_placeOfError_40 : decode cX2_placeOfError 40 = .ok (.goto 4, 3) := by decide +kernel
theorem dX2_placeOfError_43 : decode cX2_placeOfError 43 = .ok (.iconst (-1), 1) := by decide +kernel
theorem dX2_placeOfError_44 : decode cX2_placeOfError 44 = .ok (.ireturn, 1) := by decide +kernel
theorem dX2_fits_0 : decode cX2_fits 0 = .ok (.iload_n 1, 1) := by decide +kernel
theorem dX2_fits_1 : decode cX2_fits 1 = .ok (.sipush 156, 3) := by decide +kernel
theorem dX2_fits_4 : decode cX2_fits 4 = .ok (.if_icmp .lt 5, 3) := by decide +kernel
theorem dX2_fits_7 : decode cX2_fits 7 = .ok (.iconst 0, 1) := by decide +kernel
theorem dX2_fits_8 : decode cX2_fits 8 = .ok (.ireturn, 1) := by decide +kernel
theorem dX2_fits_9 : decode cX2_fits 9 = .ok (.aload_n 0, 1) := by decide +kernel
theorem dX2_fits_10 : decode cX2_fits 10 = .ok (.getfield 9, 3) := by decide +kernel
theorem dX2_fits_13 : decode cX2_fits 13 = .ok (.iload_n 1, 1) := by decide +kernel
theorem dX2_fits_14 : decode cX2_fits 14 = .ok (.iaload, 1) := by decide +kernel
theorem dX2_fits_15 : decode cX2_fits 15 = .ok (.istore_n 2, 1) := by decide +kernel
theorem dX2_fits_16 : decode cX2_fits 16 = .ok (.iload_n 1, 1) := by decide +kernel
theorem dX2_fits_17 : decode cX2_fits 17 = .ok (.bipush 13, 2) := by decide +kernel
theorem dX2_fits_19 : decode cX2_fits 19 = .ok (.irem, 1) := by decide +kernel
theorem dX2_fits_20 : decode cX2_fits 20 = .ok (.bipush 12, 2) := by decide +kernel
theorem dX2_fits_22 : decode cX2_fits 22 = .ok (.if_icmp .ne 15, 3) := by decide +kernel
theorem dX2_fits_25 : decode cX2_fits 25 = .ok (.iload_n 2, 1) := by decide +kernel
theorem dX2_fits_26 : decode cX2_fits 26 = .ok (.bipush 10, 2) := by decide +kernel
theorem dX2_fits_28 : decode cX2_fits 28 = .ok (.if_icmp .ne 7, 3) := by decide +kernel
theorem dX2_fits_31 : decode cX2_fits 31 = .ok (.iconst 1, 1) := by decide +kernel
theorem dX2_fits_32 : decode cX2_fits 32 = .ok (.goto 4, 3) := by decide +kernel
theorem dX2_fits_35 : decode cX2_fits 35 = .ok (.iconst 0, 1) := by decide +kernel
theorem dX2_fits_36 : decode cX2_fits 36 = .ok (.ireturn, 1) := by decide +kernel
theorem dX2_fits_37 : decode cX2_fits 37 = .ok (.iload_n 2, 1) := by decide +kernel
theorem dX2_fits_38 : decode cX2_fits 38 = .ok (.bipush 49, 2) := by decide +kernel
theorem dX2_fits_40 : decode cX2_fits 40 = .ok (.if_icmp .lt 9, 3) := by decide +kernel
theorem dX2_fits_43 : decode cX2_fits 43 = .ok (.iload_n 2, 1) := by decide +kernel
theorem dX2_fits_44 : decode cX2_fits 44 = .ok (.bipush 57, 2) := by decide +kernel
theorem dX2_fits_46 : decode cX2_fits 46 = .ok (.if_icmp .le 27, 3) := by decide +kernel
theorem dX2_fits_49 : decode cX2_fits 49 = .ok (.iload_n 2, 1) := by decide +kernel
theorem dX2_fits_50 : decode cX2_fits 50 = .ok (.bipush 97, 2) := by decide +kernel
theorem dX2_fits_52 : decode cX2_fits 52 = .ok (.if_icmp .lt 9, 3) := by decide +kernel
theorem dX2_fits_55 : decode cX2_fits 55 = .ok (.iload_n 2, 1) := by decide +kernel
theorem dX2_fits_56 : decode cX2_fits 56 = .ok (.bipush 105, 2) := by decide +kernel
theorem dX2_fits_58 : decode cX2_fits 58 = .ok (.if_icmp .le 15, 3) := by decide +kernel
theorem dX2_fits_61 : decode cX2_fits 61 = .ok (.iload_n 2, 1) := by decide +kernel
theorem dX2_fits_62 : decode cX2_fits 62 = .ok (.bipush 35, 2) := by decide +kernel
theorem dX2_fits_64 : decode cX2_fits 64 = .ok (.if_icmp .eq 9, 3) := by decide +kernel
theorem dX2_fits_67 : decode cX2_fits 67 = .ok (.iload_n 2, 1) := by decide +kernel
theorem dX2_fits_68 : decode cX2_fits 68 = .ok (.bipush 46, 2) := by decide +kernel
theorem dX2_fits_70 : decode cX2_fits 70 = .ok (.if_icmp .ne 7, 3) := by decide +kernel
theorem dX2_fits_73 : decode cX2_fits 73 = .ok (.iconst 1, 1) := by decide +kernel
theorem dX2_fits_74 : decode cX2_fits 74 = .ok (.goto 4, 3) := by decide +kernel
theorem dX2_fits_77 : decode cX2_fits 77 = .ok (.iconst 0, 1) := by decide +kernel
theorem dX2_fits_78 : decode cX2_fits 78 = .ok (.ireturn, 1) := by decide +kernel
theorem dX3_init_0 : decode cX3_init 0 = .ok (.aload_n 0, 1) := by decide +kernel
theorem dX3_init_1 : decode cX3_init 1 = .ok (.invokespecial 3, 3) := by decide +kernel
theorem dX3_init_4 : decode cX3_init 4 = .ok (.aload_n 0, 1) := by decide +kernel
theorem dX3_init_5 : decode cX3_init 5 = .ok (.iconst 0, 1) := by decide +kernel
theorem dX3_init_6 : decode cX3_init 6 = .ok (.putfield 9, 3) := by decide +kernel
theorem dX3_init_9 : decode cX3_init 9 = .ok (.aload_n 0, 1) := by decide +kernel
theorem dX3_init_10 : decode cX3_init 10 = .ok (.iconst 0, 1) := by decide +kernel
theorem dX3_init_11 : decode cX3_init 11 = .ok (.putfield 15, 3) := by decide +kernel
theorem dX3_init_14 : decode cX3_init 14 = .ok (.aload_n 0, 1) := by decide +kernel
theorem dX3_init_15 : decode cX3_init 15 = .ok (.iconst 0, 1) := by decide +kernel
theorem dX3_init_16 : decode cX3_init 16 = .ok (.putfield 18, 3) := by decide +kernel
theorem dX3_init_19 : decode cX3_init 19 = .ok (.aload_n 0, 1) := by decide +kernel
theorem dX3_init_20 : decode cX3_init 20 = .ok (.iconst 1, 1) := by decide +kernel
theorem dX3_init_21 : decode cX3_init 21 = .ok (.putfield 21, 3) := by decide +kernel
theorem dX3_init_24 : decode cX3_init 24 = .ok (.aload_n 0, 1) := by decide +kernel
theorem dX3_init_25 : decode cX3_init 25 = .ok (.iconst 0, 1) := by decide +kernel
theorem dX3_init_26 : decode cX3_init 26 = .ok (.putfield 24, 3) := by decide +kernel
theorem dX3_init_29 : decode cX3_init 29 = .ok (.aload_n 0, 1) := by decide +kernel
theorem dX3_init_30 : decode cX3_init 30 = .ok (.iconst 0, 1) := by decide +kernel
theorem dX3_init_31 : decode cX3_init 31 = .ok (.putfield 27, 3) := by decide +kernel
theorem dX3_init_34 : decode cX3_init 34 = .ok (.aload_n 0, 1) := by decide +kernel
theorem dX3_init_35 : decode cX3_init 35 = .ok (.iconst 0, 1) := by decide +kernel
theorem dX3_init_36 : decode cX3_init 36 = .ok (.putfield 30, 3) := by decide +kernel
theorem dX3_init_39 : decode cX3_init 39 = .ok (.aload_n 0, 1) := by decide +kernel
theorem dX3_init_40 : decode cX3_init 40 = .ok (.iconst 0, 1) := by decide +kernel
theorem dX3_init_41 : decode cX3_init 41 = .ok (.putfield 33, 3) := by decide +kernel
theorem dX3_init_44 : decode cX3_init 44 = .ok (.aload_n 0, 1) := by decide +kernel
theorem dX3_init_45 : decode cX3_init 45 = .ok (.iconst 0, 1) := by decide +kernel
theorem dX3_init_46 : decode cX3_init 46 = .ok (.putfield 37, 3) := by decide +kernel
theorem dX3_init_49 : decode cX3_init 49 = .ok (.aload_n 0, 1) := by decide +kernel
theorem dX3_init_50 : decode cX3_init 50 = .ok (.iconst (-1), 1) := by decide +kernel
theorem dX3_init_51 : decode cX3_init 51 = .ok (.putfield 40, 3) := by decide +kernel
theorem dX3_init_54 : decode cX3_init 54 = .ok (.aload_n 0, 1) := by decide +kernel
theorem dX3_init_55 : decode cX3_init 55 = .ok (.iconst (-1), 1) := by decide +kernel
theorem dX3_init_56 : decode cX3_init 56 = .ok (.putfield 43, 3) := by decide +kernel
theorem dX3_init_59 : decode cX3_init 59 = .ok (.aload_n 0, 1) := by decide +kernel
theorem dX3_init_60 : decode cX3_init 60 = .ok (.iconst (-1), 1) := by decide +kernel
theorem dX3_init_61 : decode cX3_init 61 = .ok (.putfield 46, 3) := by decide +kernel
theorem dX3_init_64 : decode cX3_init 64 = .ok (.aload_n 0, 1) := by decide +kernel
theorem dX3_init_65 : decode cX3_init 65 = .ok (.iconst 0, 1) := by decide +kernel
theorem dX3_init_66 : decode cX3_init 66 = .ok (.putfield 49, 3) := by decide +kernel
theorem dX3_init_69 : decode cX3_init 69 = .ok (.aload_n 0, 1) := by decide +kernel
theorem dX3_init_70 : decode cX3_init 70 = .ok (.bipush 12, 2) := by decide +kernel
theorem dX3_init_72 : decode cX3_init 72 = .ok (.newarray .int, 2) := by decide +kernel
theorem dX3_init_74 : decode cX3_init 74 = .ok (.putfield 52, 3) := by decide +kernel
theorem dX3_init_77 : decode cX3_init 77 = .ok (.aload_n 0, 1) := by decide +kernel
theorem dX3_init_78 : decode cX3_init 78 = .ok (.bipush 12, 2) := by decide +kernel
theorem dX3_init_80 : decode cX3_init 80 = .ok (.newarray .int, 2) := by decide +kernel
theorem dX3_init_82 : decode cX3_init 82 = .ok (.putfield 56, 3) := by decide +kernel
theorem dX3_init_85 : decode cX3_init 85 = .ok (.aload_n 0, 1) := by decide +kernel
theorem dX3_init_86 : decode cX3_init 86 = .ok (.bipush 12, 2) := by decide +kernel
theorem dX3_init_88 : decode cX3_init 88 = .ok (.newarray .int, 2) := by decide +kernel
theorem dX3_init_90 : decode cX3_init 90 = .ok (.putfield 59, 3) := by decide +kernel
theorem dX3_init_93 : decode cX3_init 93 = .ok (.return_, 1) := by decide +kernel
set_option maxRecDepth 20000 in
theorem ggX3_start_X3_beginHour : GoodIn wsX3_start wsX3_beginHour := goodIn_r _ [14, 15, 16, 17, 18, 19, 20, 21, 22, 23, 24, 25, 26, 27, 28, 29, 30, 31, 32, 33, 34] (by decide +kernel) (by decide +kernel)
set_option maxRecDepth 20000 in
theorem gX3_start_X3_beginHour : GoodIn wsX3_start (wsV RX3 62 RX3 yX3_beginHour wsX3_beginHour) := goodIn_app (goodIn_of _ (by decide +kernel)) ggX3_start_X3_beginHour
theorem dX3_start_0 : decode cX3_start 0 = .ok (.aload_n 0, 1) := by decide +kernel
theorem dX3_start_1 : decode cX3_start 1 = .ok (.iload_n 1, 1) := by decide +kernel
theorem dX3_start_2 : decode cX3_start 2 = .ok (.putfield 9, 3) := by decide +kernel
theorem dX3_start_5 : decode cX3_start 5 = .ok (.aload_n 0, 1) := by decide +kernel
theorem dX3_start_6 : decode cX3_start 6 = .ok (.iload_n 2, 1) := by decide +kernel
theorem dX3_start_7 : decode cX3_start 7 = .ok (.putfield 15, 3) := by decide +kernel
theorem dX3_start_10 : decode cX3_start 10 = .ok (.aload_n 0, 1) := by decide +kernel
theorem dX3_start_11 : decode cX3_start 11 = .ok (.iload_n 3, 1) := by decide +kernel
theorem dX3_start_12 : decode cX3_start 12 = .ok (.putfield 18, 3) := by decide +kernel
theorem dX3_start_15 : decode cX3_start 15 = .ok (.aload_n 0, 1) := by decide +kernel
theorem dX3_start_16 : decode cX3_start 16 = .ok (.iload 4, 2) := by decide +kernel
theorem dX3_start_18 : decode cX3_start 18 = .ok (.putfield 21, 3) := by decide +kernel
theorem dX3_start_21 : decode cX3_start 21 = .ok (.aload_n 0, 1) := by decide +kernel
theorem dX3_start_22 : decode cX3_start 22 = .ok (.iconst 0, 1) := by decide +kernel
theorem dX3_start_23 : decode cX3_start 23 = .ok (.putfield 24, 3) := by decide +kernel
theorem dX3_start_26 : decode cX3_start 26 = .ok (.aload_n 0, 1) := by decide +kernel
theorem dX3_start_27 : decode cX3_start 27 = .ok (.iconst (-1), 1) := by decide +kernel
theorem dX3_start_28 : decode cX3_start 28 = .ok (.putfield 40, 3) := by decide +kernel
theorem dX3_start_31 : decode cX3_start 31 = .ok (.aload_n 0, 1) := by decide +kernel
theorem dX3_start_32 : decode cX3_start 32 = .ok (.iconst (-1), 1) := by decide +kernel
theorem dX3_start_33 : decode cX3_start 33 = .ok (.putfield 43, 3) := by decide +kernel
theorem dX3_start_36 : decode cX3_start 36 = .ok (.aload_n 0, 1) := by decide +kernel
theorem dX3_start_37 : decode cX3_start 37 = .ok (.iconst (-1), 1) := by decide +kernel
theorem dX3_start_38 : decode cX3_start 38 = .ok (.putfield 46, 3) := by decide +kernel
theorem dX3_start_41 : decode cX3_start 41 = .ok (.aload_n 0, 1) := by decide +kernel
theorem dX3_start_42 : decode cX3_start 42 = .ok (.iconst 0, 1) := by decide +kernel
theorem dX3_start_43 : decode cX3_start 43 = .ok (.putfield 49, 3) := by decide +kernel
theorem dX3_start_46 : decode cX3_start 46 = .ok (.aload_n 0, 1) := by decide +kernel
theorem dX3_start_47 : decode cX3_start 47 = .ok (.invokevirtual 62, 3) := by decide +kernel
theorem dX3_start_50 : decode cX3_start 50 = .ok (.return_, 1) := by decide +kernel
theorem dX3_copyFrom_0 : decode cX3_copyFrom 0 = .ok (.aload_n 0, 1) := by decide +kernel
theorem dX3_copyFrom_1 : decode cX3_copyFrom 1 = .ok (.aload_n 1, 1) := by decide +kernel
theorem dX3_copyFrom_2 : decode cX3_copyFrom 2 = .ok (.getfield 9, 3) := by decide +kernel
theorem dX3_copyFrom_5 : decode cX3_copyFrom 5 = .ok (.putfield 9, 3) := by decide +kernel
theorem dX3_copyFrom_8 : decode cX3_copyFrom 8 = .ok (.aload_n 0, 1) := by decide +kernel
theorem dX3_copyFrom_9 : decode cX3_copyFrom 9 = .ok (.aload_n 1, 1) := by decide +kernel
theorem dX3_copyFrom_10 : decode cX3_copyFrom 10 = .ok (.getfield 15, 3) := by decide +kernel
theorem dX3_copyFrom_13 : decode cX3_copyFrom 13 = .ok (.putfield 15, 3) := by decide +kernel
theorem dX3_copyFrom_16 : decode cX3_copyFrom 16 = .ok (.aload_n 0, 1) := by decide +kernel
theorem dX3_copyFrom_17 : decode cX3_copyFrom 17 = .ok (.aload_n 1, 1) := by decide +kernel
theorem dX3_copyFrom_18 : decode cX3_copyFrom 18 = .ok (.getfield 18, 3) := by decide +kernel
theorem dX3_copyFrom_21 : decode cX3_copyFrom 21 = .ok (.putfield 18, 3) := by decide +kernel
theorem dX3_copyFrom_24 : decode cX3_copyFrom 24 = .ok (.aload_n 0, 1) := by decide +kernel
theorem dX3_copyFrom_25 : decode cX3_copyFrom 25 = .ok (.aload_n 1, 1) := by decide +kernel
theorem dX3_copyFrom_26 : decode cX3_copyFrom 26 = .ok (.getfield 21, 3) := by decide +kernel
theorem dX3_copyFrom_29 : decode cX3_copyFrom 29 = .ok (.putfield 21, 3) := by decide +kernel
theorem dX3_copyFrom_32 : decode cX3_copyFrom 32 = .ok (.aload_n 0, 1) := by decide +kernel
theorem dX3_copyFrom_33 : decode cX3_copyFrom 33 = .ok (.aload_n 1, 1) := by decide +kernel
theorem dX3_copyFrom_34 : decode cX3_copyFrom 34 = .ok (.getfield 24, 3) := by decide +kernel
theorem dX3_copyFrom_37 : decode cX3_copyFrom 37 = .ok (.putfield 24, 3) := by decide +kernel
theorem dX3_copyFrom_40 : decode cX3_copyFrom 40 = .ok (.aload_n 0, 1) := by decide +kernel
theorem dX3_copyFrom_41 : decode cX3_copyFrom 41 = .ok (.aload_n 1, 1) := by decide +kernel
theorem dX3_copyFrom_42 : decode cX3_copyFrom 42 = .ok (.getfield 27, 3) := by decide +kernel
theorem dX3_copyFrom_45 : decode cX3_copyFrom 45 = .ok (.putfield 27, 3) := by decide +kernel
theorem dX3_copyFrom_48 : decode cX3_copyFrom 48 = .ok (.aload_n 0, 1) := by decide +kernel
theorem dX3_copyFrom_49 : decode cX3_copyFrom 49 = .ok (.aload_n 1, 1) := by decide +kernel
theorem dX3_copyFrom_50 : decode cX3_copyFrom 50 = .ok (.getfield 30, 3) := by decide +kernel
theorem dX3_copyFrom_53 : decode cX3_copyFrom 53 = .ok (.putfield 30, 3) := by decide +kernel
theorem dX3_copyFrom_56 : decode cX3_copyFrom 56 = .ok (.aload_n 0, 1) := by decide +kernel
theorem dX3_copyFrom_57 : decode cX3_copyFrom 57 = .ok (.aload_n 1, 1) := by decide +kernel
theorem dX3_copyFrom_58 : decode cX3_copyFrom 58 = .ok (.getfield 33, 3) := by decide +kernel
theorem dX3_copyFrom_61 : decode cX3_copyFrom 61 = .ok (.putfield 33, 3) := by decide +kernel
theorem dX3_copyFrom_64 : decode cX3_copyFrom 64 = .ok (.aload_n 0, 1) := by decide +kernel
theorem dX3_copyFrom_65 : decode cX3_copyFrom 65 = .ok (.aload_n 1, 1) := by decide +kernel
theorem dX3_copyFrom_66 : decode cX3_copyFrom 66 = .ok (.getfield 37, 3) := by decide +kernel
theorem dX3_copyFrom_69 : decode cX3_copyFrom 69 = .ok (.putfield 37, 3) := by decide +kernel
theorem dX3_copyFrom_72 : decode cX3_copyFrom 72 = .ok (.aload_n 0, 1) := by decide +kernel
theorem dX3_copyFrom_73 : decode cX3_copyFrom 73 = .ok (.aload_n 1, 1) := by decide +kernel
theorem dX3_copyFrom_74 : decode cX3_copyFrom 74 = .ok (.getfield 40, 3) := by decide +kernel
theorem dX3_copyFrom_77 : decode cX3_copyFrom 77 = .ok (.putfield 40, 3) := by decide +kernel
theorem dX3_copyFrom_80 : decode cX3_copyFrom 80 = .ok (.aload_n 0, 1) := by decide +kernel
theorem dX3_copyFrom_81 : decode cX3_copyFrom 81 = .ok (.aload_n 1, 1) := by decide +kernel
theorem dX3_copyFrom_82 : decode cX3_copyFrom 82 = .ok (.getfield 43, 3) := by decide +kernel
theorem dX3_copyFrom_85 : decode cX3_copyFrom 85 = .ok (.putfield 43, 3) := by decide +kernel
theorem dX3_copyFrom_88 : decode cX3_copyFrom 88 = .ok (.aload_n 0, 1) := by decide +kernel
theorem dX3_copyFrom_89 : decode cX3_copyFrom 89 = .ok (.aload_n 1, 1) := by decide +kernel
theorem dX3_copyFrom_90 : decode cX3_copyFrom 90 = .ok (.getfield 46, 3) := by decide +kernel
theorem dX3_copyFrom_93 : decode cX3_copyFrom 93 = .ok (.putfield 46, 3) := by decide +kernel
theorem dX3_copyFrom_96 : decode cX3_copyFrom 96 = .ok (.aload_n 0, 1) := by decide +kernel
theorem dX3_copyFrom_97 : decode cX3_copyFrom 97 = .ok (.aload_n 1, 1) := by decide +kernel
theorem dX3_copyFrom_98 : decode cX3_copyFrom 98 = .ok (.getfield 49, 3) := by decide +kernel
theorem dX3_copyFrom_101 : decode cX3_copyFrom 101 = .ok (.putfield 49, 3) := by decide +kernel
theorem dX3_copyFrom_104 : decode cX3_copyFrom 104 = .ok (.aload_n 1, 1) := by decide +kernel
theorem dX3_copyFrom_105 : decode cX3_copyFrom 105 = .ok (.getfield 52, 3) := by decide +kernel
theorem dX3_copyFrom_108 : decode cX3_copyFrom 108 = .ok (.iconst 0, 1) := by decide +kernel
theorem dX3_copyFrom_109 : decode cX3_copyFrom 109 = .ok (.aload_n 0, 1) := by decide +kernel
theorem dX3_copyFrom_110 : decode cX3_copyFrom 110 = .ok (.getfield 52, 3) := by decide +kernel
theorem dX3_copyFrom_113 : decode cX3_copyFrom 113 = .ok (.iconst 0, 1) := by decide +kernel
theorem dX3_copyFrom_114 : decode cX3_copyFrom 114 = .ok (.bipush 12, 2) := by decide +kernel
theorem dX3_copyFrom_116 : decode cX3_copyFrom 116 = .ok (.invokestatic 65, 3) := by decide +kernel
theorem dX3_copyFrom_119 : decode cX3_copyFrom 119 = .ok (.aload_n 1, 1) := by decide +kernel
theorem dX3_copyFrom_120 : decode cX3_copyFrom 120 = .ok (.getfield 56, 3) := by decide +kernel
theorem dX3_copyFrom_123 : decode cX3_copyFrom 123 = .ok (.iconst 0, 1) := by decide +kernel
theorem dX3_copyFrom_124 : decode cX3_copyFrom 124 = .ok (.aload_n 0, 1) := by decide +kernel
theorem dX3_copyFrom_125 : decode cX3_copyFrom 125 = .ok (.getfield 56, 3) := by decide +kernel
theorem dX3_copyFrom_128 : decode cX3_copyFrom 128 = .ok (.iconst 0, 1) := by decide +kernel
theorem dX3_copyFrom_129 : decode cX3_copyFrom 129 = .ok (.bipush 12, 2) := by decide +kernel
theorem dX3_copyFrom_131 : decode cX3_copyFrom 131 = .ok (.invokestatic 65, 3) := by decide +kernel
theorem dX3_copyFrom_134 : decode cX3_copyFrom 134 = .ok (.aload_n 1, 1) := by decide +kernel
theorem dX3_copyFrom_135 : decode cX3_copyFrom 135 = .ok (.getfield 59, 3) := by decide +kernel
theorem dX3_copyFrom_138 : decode cX3_copyFrom 138 = .ok (.iconst 0, 1) := by decide +kernel
theorem dX3_copyFrom_139 : decode cX3_copyFrom 139 = .ok (.aload_n 0, 1) := by decide +kernel
theorem dX3_copyFrom_140 : decode cX3_copyFrom 140 = .ok (.getfield 59, 3) := by decide +kernel
theorem dX3_copyFrom_143 : decode cX3_copyFrom 143 = .ok (.iconst 0, 1) := by decide +kernel
theorem dX3_copyFrom_144 : decode cX3_copyFrom 144 = .ok (.bipush 12, 2) := by decide +kernel
theorem dX3_copyFrom_146 : decode cX3_copyFrom 146 = .ok (.invokestatic 65, 3) := by decide +kernel
theorem dX3_copyFrom_149 : decode cX3_copyFrom 149 = .ok (.return_, 1) := by decide +kernel
theorem dX3_beginHour_0 : decode cX3_beginHour 0 = .ok (.aload_n 0, 1) := by decide +kernel
theorem dX3_beginHour_1 : decode cX3_beginHour 1 = .ok (.iconst 0, 1) := by decide +kernel
theorem dX3_beginHour_2 : decode cX3_beginHour 2 = .ok (.putfield 27, 3) := by decide +kernel
theorem dX3_beginHour_5 : decode cX3_beginHour 5 = .ok (.aload_n 0, 1) := by decide +kernel
theorem dX3_beginHour_6 : decode cX3_beginHour 6 = .ok (.iconst 0, 1) := by decide +kernel
theorem dX3_beginHour_7 : decode cX3_beginHour 7 = .ok (.putfield 30, 3) := by decide +kernel
theorem dX3_beginHour_10 : decode cX3_beginHour 10 = .ok (.aload_n 0, 1) := by decide +kernel
theorem dX3_beginHour_11 : decode cX3_beginHour 11 = .ok (.iconst 0, 1) := by decide +kernel
theorem dX3_beginHour_12 : decode cX3_beginHour 12 = .ok (.putfield 33, 3) := by decide +kernel
theorem dX3_beginHour_15 : decode cX3_beginHour 15 = .ok (.aload_n 0, 1) := by decide +kernel
theorem dX3_beginHour_16 : decode cX3_beginHour 16 = .ok (.iconst 0, 1) := by decide +kernel
theorem dX3_beginHour_17 : decode cX3_beginHour 17 = .ok (.putfield 37, 3) := by decide +kernel
theorem dX3_beginHour_20 : decode cX3_beginHour 20 = .ok (.return_, 1) := by decide +kernel
theorem dX3_isGone_0 : decode cX3_isGone 0 = .ok (.aload_n 0, 1) := by decide +kernel
theorem dX3_isGone_1 : decode cX3_isGone 1 = .ok (.getfield 18, 3) := by decide +kernel
theorem dX3_isGone_4 : decode cX3_isGone 4 = .ok (.ifCond .gt 7, 3) := by decide +kernel
theorem dX3_isGone_7 : decode cX3_isGone 7 = .ok (.iconst 1, 1) := by decide +kernel
theorem dX3_isGone_8 : decode cX3_isGone 8 = .ok (.goto 4, 3) := by decide +kernel
theorem dX3_isGone_11 : decode cX3_isGone 11 = .ok (.iconst 0, 1) := by decide +kernel
theorem dX3_isGone_12 : decode cX3_isGone 12 = .ok (.ireturn, 1) := by decide +kernel
set_option maxRecDepth 20000 in
theorem ggX3_isNear_X5_distance : GoodIn wsX3_isNear wsX5_distance := goodIn_r _ [4, 5, 6, 7, 8] (by decide +kernel) (by decide +kernel)
set_option maxRecDepth 20000 in
theorem gX3_isNear_X5_distance_n71 : GoodIn wsX3_isNear (wsX5_distance) := ggX3_isNear_X5_distance
theorem dX3_isNear_0 : decode cX3_isNear 0 = .ok (.aload_n 0, 1) := by decide +kernel
theorem dX3_isNear_1 : decode cX3_isNear 1 = .ok (.getfield 15, 3) := by decide +kernel
theorem dX3_isNear_4 : decode cX3_isNear 4 = .ok (.iload_n 1, 1) := by decide +kernel
theorem dX3_isNear_5 : decode cX3_isNear 5 = .ok (.invokestatic 71, 3) := by decide +kernel
theorem dX3_isNear_8 : decode cX3_isNear 8 = .ok (.iconst 1, 1) := by decide +kernel
theorem dX3_isNear_9 : decode cX3_isNear 9 = .ok (.if_icmp .gt 7, 3) := by decide +kernel
theorem dX3_isNear_12 : decode cX3_isNear 12 = .ok (.iconst 1, 1) := by decide +kernel
theorem dX3_isNear_13 : decode cX3_isNear 13 = .ok (.goto 4, 3) := by decide +kernel
theorem dX3_isNear_16 : decode cX3_isNear 16 = .ok (.iconst 0, 1) := by decide +kernel
theorem dX3_isNear_17 : decode cX3_isNear 17 = .ok (.ireturn, 1) := by decide +kernel
theorem dX3_loseHealth_0 : decode cX3_loseHealth 0 = .ok (.aload_n 0, 1) := by decide +kernel
theorem dX3_loseHealth_1 : decode cX3_loseHealth 1 = .ok (.iconst 0, 1) := by decide +kernel
theorem dX3_loseHealth_2 : decode cX3_loseHealth 2 = .ok (.aload_n 0, 1) := by decide +kernel
theorem dX3_loseHealth_3 : decode cX3_loseHealth 3 = .ok (.getfield 18, 3) := by decide +kernel
theorem dX3_loseHealth_6 : decode cX3_loseHealth 6 = .ok (.iload_n 1, 1) := by decide +kernel
theorem dX3_loseHealth_7 : decode cX3_loseHealth 7 = .ok (.isub, 1) := by decide +kernel
theorem dX3_loseHealth_8 : decode cX3_loseHealth 8 = .ok (.invokestatic 75, 3) := by decide +kernel
theorem dX3_loseHealth_11 : decode cX3_loseHealth 11 = .ok (.putfield 18, 3) := by decide +kernel
theorem dX3_loseHealth_14 : decode cX3_loseHealth 14 = .ok (.return_, 1) := by decide +kernel
theorem dX3_addOrder_0 : decode cX3_addOrder 0 = .ok (.aload_n 0, 1) := by decide +kernel
theorem dX3_addOrder_1 : decode cX3_addOrder 1 = .ok (.getfield 49, 3) := by decide +kernel
theorem dX3_addOrder_4 : decode cX3_addOrder 4 = .ok (.ifCond .lt 12, 3) := by decide +kernel
theorem dX3_addOrder_7 : decode cX3_addOrder 7 = .ok (.aload_n 0, 1) := by decide +kernel
theorem dX3_addOrder_8 : decode cX3_addOrder 8 = .ok (.getfield 49, 3) := by decide +kernel
theorem dX3_addOrder_11 : decode cX3_addOrder 11 = .ok (.bipush 12, 2) := by decide +kernel
theorem dX3_addOrder_13 : decode cX3_addOrder 13 = .ok (.if_icmp .lt 4, 3) := by decide +kernel
theorem dX3_addOrder_16 : decode cX3_addOrder 16 = .ok (.return_, 1) := by decide +kernel
theorem dX3_addOrder_17 : decode cX3_addOrder 17 = .ok (.aload_n 0, 1) := by decide +kernel
theorem dX3_addOrder_18 : decode cX3_addOrder 18 = .ok (.getfield 52, 3) := by decide +kernel
theorem dX3_addOrder_21 : decode cX3_addOrder 21 = .ok (.aload_n 0, 1) := by decide +kernel
theorem dX3_addOrder_22 : decode cX3_addOrder 22 = .ok (.getfield 49, 3) := by decide +kernel
theorem dX3_addOrder_25 : decode cX3_addOrder 25 = .ok (.iload_n 1, 1) := by decide +kernel
theorem dX3_addOrder_26 : decode cX3_addOrder 26 = .ok (.iastore, 1) := by decide +kernel
theorem dX3_addOrder_27 : decode cX3_addOrder 27 = .ok (.aload_n 0, 1) := by decide +kernel
theorem dX3_addOrder_28 : decode cX3_addOrder 28 = .ok (.getfield 56, 3) := by decide +kernel
theorem dX3_addOrder_31 : decode cX3_addOrder 31 = .ok (.aload_n 0, 1) := by decide +kernel
theorem dX3_addOrder_32 : decode cX3_addOrder 32 = .ok (.getfield 49, 3) := by decide +kernel
theorem dX3_addOrder_35 : decode cX3_addOrder 35 = .ok (.iload_n 2, 1) := by decide +kernel
theorem dX3_addOrder_36 : decode cX3_addOrder 36 = .ok (.iastore, 1) := by decide +kernel
theorem dX3_addOrder_37 : decode cX3_addOrder 37 = .ok (.aload_n 0, 1) := by decide +kernel
theorem dX3_addOrder_38 : decode cX3_addOrder 38 = .ok (.getfield 59, 3) := by decide +kernel
theorem dX3_addOrder_41 : decode cX3_addOrder 41 = .ok (.aload_n 0, 1) := by decide +kernel
theorem dX3_addOrder_42 : decode cX3_addOrder 42 = .ok (.getfield 49, 3) := by decide +kernel
theorem dX3_addOrder_45 : decode cX3_addOrder 45 = .ok (.iload_n 3, 1) := by decide +kernel
theorem dX3_addOrder_46 : decode cX3_addOrder 46 = .ok (.iastore, 1) := by decide +kernel
theorem dX3_addOrder_47 : decode cX3_addOrder 47 = .ok (.aload_n 0, 1) := by decide +kernel
theorem dX3_addOrder_48 : decode cX3_addOrder 48 = .ok (.dup, 1) := by decide +kernel
theorem dX3_addOrder_49 : decode cX3_addOrder 49 = .ok (.getfield 49, 3) := by decide +kernel
theorem dX3_addOrder_52 : decode cX3_addOrder 52 = .ok (.iconst 1, 1) := by decide +kernel
theorem dX3_addOrder_53 : decode cX3_addOrder 53 = .ok (.iadd, 1) := by decide +kernel
theorem dX3_addOrder_54 : decode cX3_addOrder 54 = .ok (.putfield 49, 3) := by decide +kernel
theorem dX3_addOrder_57 : decode cX3_addOrder 57 = .ok (.return_, 1) := by decide +kernel
theorem dX3_firstKind_0 : decode cX3_firstKind 0 = .ok (.aload_n 0, 1) := by decide +kernel
theorem dX3_firstKind_1 : decode cX3_firstKind 1 = .ok (.getfield 49, 3) := by decide +kernel
theorem dX3_firstKind_4 : decode cX3_firstKind 4 = .ok (.ifCond .le 12, 3) := by decide +kernel
theorem dX3_firstKind_7 : decode cX3_firstKind 7 = .ok (.aload_n 0, 1) := by decide +kernel
theorem dX3_firstKind_8 : decode cX3_firstKind 8 = .ok (.getfield 52, 3) := by decide +kernel
theorem dX3_firstKind_11 : decode cX3_firstKind 11 = .ok (.iconst 0, 1) := by decide +kernel
theorem dX3_firstKind_12 : decode cX3_firstKind 12 = .ok (.iaload, 1) := by decide +kernel
theorem dX3_firstKind_13 : decode cX3_firstKind 13 = .ok (.goto 4, 3) := by decide +kernel
theorem dX3_firstKind_16 : decode cX3_firstKind 16 = .ok (.iconst (-1), 1) := by decide +kernel
theorem dX3_firstKind_17 : decode cX3_firstKind 17 = .ok (.ireturn, 1) := by decide +kernel
theorem dX3_firstDirection_0 : decode cX3_firstDirection 0 = .ok (.aload_n 0, 1) := by decide +kernel
theorem dX3_firstDirection_1 : decode cX3_firstDirection 1 = .ok (.getfield 56, 3) := by decide +kernel
theorem dX3_firstDirection_4 : decode cX3_firstDirection 4 = .ok (.iconst 0, 1) := by decide +kernel
theorem dX3_firstDirection_5 : decode cX3_firstDirection 5 = .ok (.iaload, 1) := by decide +kernel
theorem dX3_firstDirection_6 : decode cX3_firstDirection 6 = .ok (.ireturn, 1) := by decide +kernel
set_option maxRecDepth 20000 in
theorem ggX3_countFirstOrder_X3_dropFirstOrder : GoodIn wsX3_countFirstOrder wsX3_dropFirstOrder := goodIn_r _ [6, 7, 8, 1, 9, 10, 11, 12, 13, 14, 15, 16, 17, 18, 19, 20, 21, 22, 23, 24, 25] (by decide +kernel) (by decide +kernel)
set_option maxRecDepth 20000 in
theorem gX3_countFirstOrder_X3_dropFirstOrder : GoodIn wsX3_countFirstOrder (wsV RX3 80 RX3 yX3_dropFirstOrder wsX3_dropFirstOrder) := goodIn_app (goodIn_of _ (by decide +kernel)) ggX3_countFirstOrder_X3_dropFirstOrder
theorem dX3_countFirstOrder_0 : decode cX3_countFirstOrder 0 = .ok (.aload_n 0, 1) := by decide +kernel
theorem dX3_countFirstOrder_1 : decode cX3_countFirstOrder 1 = .ok (.getfield 59, 3) := by decide +kernel
theorem dX3_countFirstOrder_4 : decode cX3_countFirstOrder 4 = .ok (.iconst 0, 1) := by decide +kernel
theorem dX3_countFirstOrder_5 : decode cX3_countFirstOrder 5 = .ok (.dup2, 1) := by decide +kernel
theorem dX3_countFirstOrder_6 : decode cX3_countFirstOrder 6 = .ok (.iaload, 1) := by decide +kernel
theorem dX3_countFirstOrder_7 : decode cX3_countFirstOrder 7 = .ok (.iconst 1, 1) := by decide +kernel
theorem dX3_countFirstOrder_8 : decode cX3_countFirstOrder 8 = .ok (.isub, 1) := by decide +kernel
theorem dX3_countFirstOrder_9 : decode cX3_countFirstOrder 9 = .ok (.iastore, 1) := by decide +kernel
theorem dX3_countFirstOrder_10 : decode cX3_countFirstOrder 10 = .ok (.aload_n 0, 1) := by decide +kernel
theorem dX3_countFirstOrder_11 : decode cX3_countFirstOrder 11 = .ok (.getfield 59, 3) := by decide +kernel
theorem dX3_countFirstOrder_14 : decode cX3_countFirstOrder 14 = .ok (.iconst 0, 1) := by decide +kernel
theorem dX3_countFirstOrder_15 : decode cX3_countFirstOrder 15 = .ok (.iaload, 1) := by decide +kernel
theorem dX3_countFirstOrder_16 : decode cX3_countFirstOrder 16 = .ok (.ifCond .gt 7, 3) := by decide +kernel
theorem dX3_countFirstOrder_19 : decode cX3_countFirstOrder 19 = .ok (.aload_n 0, 1) := by decide +kernel
theorem dX3_countFirstOrder_20 : decode cX3_countFirstOrder 20 = .ok (.invokevirtual 80, 3) := by decide +kernel
theorem dX3_countFirstOrder_23 : decode cX3_countFirstOrder 23 = .ok (.return_, 1) := by decide +kernel
set_option maxRecDepth 20000 in
theorem ggX3_missFirstOrder_X3_dropFirstOrder : GoodIn wsX3_missFirstOrder wsX3_dropFirstOrder := goodIn_r _ [6, 7, 8, 9, 10, 11, 12, 13, 14, 15, 16, 17, 18, 19, 20, 21, 22, 23, 24, 25, 26] (by decide +kernel) (by decide +kernel)
set_option maxRecDepth 20000 in
theorem gX3_missFirstOrder_X3_dropFirstOrder : GoodIn wsX3_missFirstOrder (wsV RX3 80 RX3 yX3_dropFirstOrder wsX3_dropFirstOrder) := goodIn_app (goodIn_of _ (by decide +kernel)) ggX3_missFirstOrder_X3_dropFirstOrder
theorem dX3_missFirstOrder_0 : decode cX3_missFirstOrder 0 = .ok (.aload_n 0, 1) := by decide +kernel
theorem dX3_missFirstOrder_1 : decode cX3_missFirstOrder 1 = .ok (.dup, 1) := by decide +kernel
theorem dX3_missFirstOrder_2 : decode cX3_missFirstOrder 2 = .ok (.getfield 24, 3) := by decide +kernel
theorem dX3_missFirstOrder_5 : decode cX3_missFirstOrder 5 = .ok (.iconst 1, 1) := by decide +kernel
theorem dX3_missFirstOrder_6 : decode cX3_missFirstOrder 6 = .ok (.iadd, 1) := by decide +kernel
theorem dX3_missFirstOrder_7 : decode cX3_missFirstOrder 7 = .ok (.putfield 24, 3) := by decide +kernel
theorem dX3_missFirstOrder_10 : decode cX3_missFirstOrder 10 = .ok (.aload_n 0, 1) := by decide +kernel
theorem dX3_missFirstOrder_11 : decode cX3_missFirstOrder 11 = .ok (.invokevirtual 80, 3) := by decide +kernel
theorem dX3_missFirstOrder_14 : decode cX3_missFirstOrder 14 = .ok (.return_, 1) := by decide +kernel
theorem dX3_dropFirstOrder_0 : decode cX3_dropFirstOrder 0 = .ok (.iconst 1, 1) := by decide +kernel
theorem dX3_dropFirstOrder_1 : decode cX3_dropFirstOrder 1 = .ok (.istore_n 1, 1) := by decide +kernel
theorem dX3_dropFirstOrder_2 : decode cX3_dropFirstOrder 2 = .ok (.iload_n 1, 1) := by decide +kernel
theorem dX3_dropFirstOrder_3 : decode cX3_dropFirstOrder 3 = .ok (.bipush 12, 2) := by decide +kernel
theorem dX3_dropFirstOrder_5 : decode cX3_dropFirstOrder 5 = .ok (.if_icmp .ge 51, 3) := by decide +kernel
theorem dX3_dropFirstOrder_8 : decode cX3_dropFirstOrder 8 = .ok (.aload_n 0, 1) := by decide +kernel
theorem dX3_dropFirstOrder_9 : decode cX3_dropFirstOrder 9 = .ok (.getfield 52, 3) := by decide +kernel
theorem dX3_dropFirstOrder_12 : decode cX3_dropFirstOrder 12 = .ok (.iload_n 1, 1) := by decide +kernel
theorem dX3_dropFirstOrder_13 : decode cX3_dropFirstOrder 13 = .ok (.iconst 1, 1) := by decide +kernel
theorem dX3_dropFirstOrder_14 : decode cX3_dropFirstOrder 14 = .ok (.isub, 1) := by decide +kernel
theorem dX3_dropFirstOrder_15 : decode cX3_dropFirstOrder 15 = .ok (.aload_n 0, 1) := by decide +kernel
theorem dX3_dropFirstOrder_16 : decode cX3_dropFirstOrder 16 = .ok (.getfield 52, 3) := by decide +kernel
theorem dX3_dropFirstOrder_19 : decode cX3_dropFirstOrder 19 = .ok (.iload_n 1, 1) := by decide +kernel
theorem dX3_dropFirstOrder_20 : decode cX3_dropFirstOrder 20 = .ok (.iaload, 1) := by decide +kernel
theorem dX3_dropFirstOrder_21 : decode cX3_dropFirstOrder 21 = .ok (.iastore, 1) := by decide +kernel
theorem dX3_dropFirstOrder_22 : decode cX3_dropFirstOrder 22 = .ok (.aload_n 0, 1) := by decide +kernel
theorem dX3_dropFirstOrder_23 : decode cX3_dropFirstOrder 23 = .ok (.getfield 56, 3) := by decide +kernel
theorem dX3_dropFirstOrder_26 : decode cX3_dropFirstOrder 26 = .ok (.iload_n 1, 1) := by decide +kernel
theorem dX3_dropFirstOrder_27 : decode cX3_dropFirstOrder 27 = .ok (.iconst 1, 1) := by decide +kernel
theorem dX3_dropFirstOrder_28 : decode cX3_dropFirstOrder 28 = .ok (.isub, 1) := by decide +kernel
theorem dX3_dropFirstOrder_29 : decode cX3_dropFirstOrder 29 = .ok (.aload_n 0, 1) := by decide +kernel
theorem dX3_dropFirstOrder_30 : decode cX3_dropFirstOrder 30 = .ok (.getfield 56, 3) := by decide +kernel
theorem dX3_dropFirstOrder_33 : decode cX3_dropFirstOrder 33 = .ok (.iload_n 1, 1) := by decide +kernel
theorem dX3_dropFirstOrder_34 : decode cX3_dropFirstOrder 34 = .ok (.iaload, 1) := by decide +kernel
theorem dX3_dropFirstOrder_35 : decode cX3_dropFirstOrder 35 = .ok (.iastore, 1) := by decide +kernel
theorem dX3_dropFirstOrder_36 : decode cX3_dropFirstOrder 36 = .ok (.aload_n 0, 1) := by decide +kernel
theorem dX3_dropFirstOrder_37 : decode cX3_dropFirstOrder 37 = .ok (.getfield 59, 3) := by decide +kernel
theorem dX3_dropFirstOrder_40 : decode cX3_dropFirstOrder 40 = .ok (.iload_n 1, 1) := by decide +kernel
theorem dX3_dropFirstOrder_41 : decode cX3_dropFirstOrder 41 = .ok (.iconst 1, 1) := by decide +kernel
theorem dX3_dropFirstOrder_42 : decode cX3_dropFirstOrder 42 = .ok (.isub, 1) := by decide +kernel
theorem dX3_dropFirstOrder_43 : decode cX3_dropFirstOrder 43 = .ok (.aload_n 0, 1) := by decide +kernel
theorem dX3_dropFirstOrder_44 : decode cX3_dropFirstOrder 44 = .ok (.getfield 59, 3) := by decide +kernel
theorem dX3_dropFirstOrder_47 : decode cX3_dropFirstOrder 47 = .ok (.iload_n 1, 1) := by decide +kernel
theorem dX3_dropFirstOrder_48 : decode cX3_dropFirstOrder 48 = .ok (.iaload, 1) := by decide +kernel
theorem dX3_dropFirstOrder_49 : decode cX3_dropFirstOrder 49 = .ok (.iastore, 1) := by decide +kernel
theorem dX3_dropFirstOrder_50 : decode cX3_dropFirstOrder 50 = .ok (.iinc 1 1, 3) := by decide +kernel
theorem dX3_dropFirstOrder_53 : decode cX3_dropFirstOrder 53 = .ok (.goto (-51), 3) := by decide +kernel
theorem dX3_dropFirstOrder_56 : decode cX3_dropFirstOrder 56 = .ok (.aload_n 0, 1) := by decide +kernel
theorem dX3_dropFirstOrder_57 : decode cX3_dropFirstOrder 57 = .ok (.dup, 1) := by decide +kernel
theorem dX3_dropFirstOrder_58 : decode cX3_dropFirstOrder 58 = .ok (.getfield 49, 3) := by decide +kernel
theorem dX3_dropFirstOrder_61 : decode cX3_dropFirstOrder 61 = .ok (.iconst 1, 1) := by decide +kernel
theorem dX3_dropFirstOrder_62 : decode cX3_dropFirstOrder 62 = .ok (.isub, 1) := by decide +kernel
theorem dX3_dropFirstOrder_63 : decode cX3_dropFirstOrder 63 = .ok (.putfield 49, 3) := by decide +kernel
theorem dX3_dropFirstOrder_66 : decode cX3_dropFirstOrder 66 = .ok (.return_, 1) := by decide +kernel
theorem dX3_remember_0 : decode cX3_remember 0 = .ok (.aload_n 0, 1) := by decide +kernel
theorem dX3_remember_1 : decode cX3_remember 1 = .ok (.iload_n 1, 1) := by decide +kernel
theorem dX3_remember_2 : decode cX3_remember 2 = .ok (.putfield 40, 3) := by decide +kernel
theorem dX3_remember_5 : decode cX3_remember 5 = .ok (.aload_n 0, 1) := by decide +kernel
theorem dX3_remember_6 : decode cX3_remember 6 = .ok (.iload_n 2, 1) := by decide +kernel
theorem dX3_remember_7 : decode cX3_remember 7 = .ok (.putfield 43, 3) := by decide +kernel
theorem dX3_remember_10 : decode cX3_remember 10 = .ok (.aload_n 0, 1) := by decide +kernel
theorem dX3_remember_11 : decode cX3_remember 11 = .ok (.iload_n 3, 1) := by decide +kernel
theorem dX3_remember_12 : decode cX3_remember 12 = .ok (.putfield 46, 3) := by decide +kernel
theorem dX3_remember_15 : decode cX3_remember 15 = .ok (.return_, 1) := by decide +kernel
set_option maxRecDepth 20000 in
theorem ggX3_valueOf_X3_firstKind : GoodIn wsX3_valueOf wsX3_firstKind := goodIn_r _ [13, 5, 14, 15, 16, 17, 18, 19, 20, 21, 22, 23, 24, 25, 26, 27, 28, 29, 30] (by decide +kernel) (by decide +kernel)
set_option maxRecDepth 20000 in
theorem gX3_valueOf_X3_firstKind : GoodIn wsX3_valueOf (wsV RX3 83 RX3 yX3_firstKind wsX3_firstKind) := goodIn_app (goodIn_of _ (by decide +kernel)) ggX3_valueOf_X3_firstKind
theorem dX3_valueOf_0 : decode cX3_valueOf 0 = .ok (.iload_n 1, 1) := by decide +kernel
theorem dX3_valueOf_1 : decode cX3_valueOf 1 = .ok (.tableswitch 102 0 8 #[51, 56, 64, 72, 77, 82, 87, 92, 97], 51) := by decide +kernel
theorem dX3_valueOf_52 : decode cX3_valueOf 52 = .ok (.aload_n 0, 1) := by decide +kernel
theorem dX3_valueOf_53 : decode cX3_valueOf 53 = .ok (.getfield 9, 3) := by decide +kernel
theorem dX3_valueOf_56 : decode cX3_valueOf 56 = .ok (.ireturn, 1) := by decide +kernel
theorem dX3_valueOf_57 : decode cX3_valueOf 57 = .ok (.aload_n 0, 1) := by decide +kernel
theorem dX3_valueOf_58 : decode cX3_valueOf 58 = .ok (.getfield 15, 3) := by decide +kernel
theorem dX3_valueOf_61 : decode cX3_valueOf 61 = .ok (.bipush 12, 2) := by decide +kernel
theorem dX3_valueOf_63 : decode cX3_valueOf 63 = .ok (.irem, 1) := by decide +kernel
theorem dX3_valueOf_64 : decode cX3_valueOf 64 = .ok (.ireturn, 1) := by decide +kernel
theorem dX3_valueOf_65 : decode cX3_valueOf 65 = .ok (.aload_n 0, 1) := by decide +kernel
theorem dX3_valueOf_66 : decode cX3_valueOf 66 = .ok (.getfield 15, 3) := by decide +kernel
theorem dX3_valueOf_69 : decode cX3_valueOf 69 = .ok (.bipush 12, 2) := by decide +kernel
theorem dX3_valueOf_71 : decode cX3_valueOf 71 = .ok (.idiv, 1) := by decide +kernel
theorem dX3_valueOf_72 : decode cX3_valueOf 72 = .ok (.ireturn, 1) := by decide +kernel
theorem dX3_valueOf_73 : decode cX3_valueOf 73 = .ok (.aload_n 0, 1) := by decide +kernel
theorem dX3_valueOf_74 : decode cX3_valueOf 74 = .ok (.getfield 18, 3) := by decide +kernel
theorem dX3_valueOf_77 : decode cX3_valueOf 77 = .ok (.ireturn, 1) := by decide +kernel
theorem dX3_valueOf_78 : decode cX3_valueOf 78 = .ok (.aload_n 0, 1) := by decide +kernel
theorem dX3_valueOf_79 : decode cX3_valueOf 79 = .ok (.getfield 21, 3) := by decide +kernel
theorem dX3_valueOf_82 : decode cX3_valueOf 82 = .ok (.ireturn, 1) := by decide +kernel
theorem dX3_valueOf_83 : decode cX3_valueOf 83 = .ok (.aload_n 0, 1) := by decide +kernel
theorem dX3_valueOf_84 : decode cX3_valueOf 84 = .ok (.getfield 49, 3) := by decide +kernel
theorem dX3_valueOf_87 : decode cX3_valueOf 87 = .ok (.ireturn, 1) := by decide +kernel
theorem dX3_valueOf_88 : decode cX3_valueOf 88 = .ok (.aload_n 0, 1) := by decide +kernel
theorem dX3_valueOf_89 : decode cX3_valueOf 89 = .ok (.getfield 24, 3) := by decide +kernel
theorem dX3_valueOf_92 : decode cX3_valueOf 92 = .ok (.ireturn, 1) := by decide +kernel
theorem dX3_valueOf_93 : decode cX3_valueOf 93 = .ok (.aload_n 0, 1) := by decide +kernel
theorem dX3_valueOf_94 : decode cX3_valueOf 94 = .ok (.getfield 27, 3) := by decide +kernel
theorem dX3_valueOf_97 : decode cX3_valueOf 97 = .ok (.ireturn, 1) := by decide +kernel
theorem dX3_valueOf_98 : decode cX3_valueOf 98 = .ok (.aload_n 0, 1) := by decide +kernel
theorem dX3_valueOf_99 : decode cX3_valueOf 99 = .ok (.invokevirtual 83, 3) := by decide +kernel
theorem dX3_valueOf_102 : decode cX3_valueOf 102 = .ok (.ireturn, 1) := by decide +kernel
theorem dX3_valueOf_103 : decode cX3_valueOf 103 = .ok (.aload_n 0, 1) := by decide +kernel
theorem dX3_valueOf_104 : decode cX3_valueOf 104 = .ok (.getfield 49, 3) := by decide +kernel
theorem dX3_valueOf_107 : decode cX3_valueOf 107 = .ok (.ifCond .le 12, 3) := by decide +kernel
theorem dX3_valueOf_110 : decode cX3_valueOf 110 = .ok (.aload_n 0, 1) := by decide +kernel
theorem dX3_valueOf_111 : decode cX3_valueOf 111 = .ok (.getfield 59, 3) := by decide +kernel
theorem dX3_valueOf_114 : decode cX3_valueOf 114 = .ok (.iconst 0, 1) := by decide +kernel
theorem dX3_valueOf_115 : decode cX3_valueOf 115 = .ok (.iaload, 1) := by decide +kernel
theorem dX3_valueOf_116 : decode cX3_valueOf 116 = .ok (.goto 4, 3) := by decide +kernel
theorem dX3_valueOf_119 : decode cX3_valueOf 119 = .ok (.iconst 0, 1) := by decide +kernel
theorem dX3_valueOf_120 : decode cX3_valueOf 120 = .ok (.ireturn, 1) := by decide +kernel
theorem dX3_heardValue_0 : decode cX3_heardValue 0 = .ok (.iload_n 1, 1) := by decide +kernel
theorem dX3_heardValue_1 : decode cX3_heardValue 1 = .ok (.lookupswitch 37 #[(0, 27), (1, 32)], 27) := by decide +kernel
theorem dX3_heardValue_28 : decode cX3_heardValue 28 = .ok (.aload_n 0, 1) := by decide +kernel
theorem dX3_heardValue_29 : decode cX3_heardValue 29 = .ok (.getfield 40, 3) := by decide +kernel
theorem dX3_heardValue_32 : decode cX3_heardValue 32 = .ok (.ireturn, 1) := by decide +kernel
theorem dX3_heardValue_33 : decode cX3_heardValue 33 = .ok (.aload_n 0, 1) := by decide +kernel
theorem dX3_heardValue_34 : decode cX3_heardValue 34 = .ok (.getfield 43, 3) := by decide +kernel
theorem dX3_heardValue_37 : decode cX3_heardValue 37 = .ok (.ireturn, 1) := by decide +kernel
theorem dX3_heardValue_38 : decode cX3_heardValue 38 = .ok (.aload_n 0, 1) := by decide +kernel
theorem dX3_heardValue_39 : decode cX3_heardValue 39 = .ok (.getfield 46, 3) := by decide +kernel
theorem dX3_heardValue_42 : decode cX3_heardValue 42 = .ok (.ireturn, 1) := by decide +kernel
theorem dX4_init_0 : decode cX4_init 0 = .ok (.aload_n 0, 1) := by decide +kernel
theorem dX4_init_1 : decode cX4_init 1 = .ok (.invokespecial 3, 3) := by decide +kernel
theorem dX4_init_4 : decode cX4_init 4 = .ok (.aload_n 0, 1) := by decide +kernel
theorem dX4_init_5 : decode cX4_init 5 = .ok (.sipush 144, 3) := by decide +kernel
theorem dX4_init_8 : decode cX4_init 8 = .ok (.newarray .int, 2) := by decide +kernel
theorem dX4_init_10 : decode cX4_init 10 = .ok (.putfield 9, 3) := by decide +kernel
theorem dX4_init_13 : decode cX4_init 13 = .ok (.aload_n 0, 1) := by decide +kernel
theorem dX4_init_14 : decode cX4_init 14 = .ok (.sipush 144, 3) := by decide +kernel
theorem dX4_init_17 : decode cX4_init 17 = .ok (.newarray .boolean, 2) := by decide +kernel
theorem dX4_init_19 : decode cX4_init 19 = .ok (.putfield 15, 3) := by decide +kernel
theorem dX4_init_22 : decode cX4_init 22 = .ok (.return_, 1) := by decide +kernel
set_option maxRecDepth 20000 in
theorem ggX4_searchFrom_X4_nearestUnsettled : GoodIn wsX4_searchFrom wsX4_nearestUnsettled := goodIn_r _ [7, 2, 1, 34, 35] (by decide +kernel) (by decide +kernel)
set_option maxRecDepth 20000 in
theorem gX4_searchFrom_X4_nearestUnsettled : GoodIn wsX4_searchFrom (wsV RX4 19 RX4 yX4_nearestUnsettled wsX4_nearestUnsettled) := goodIn_app (goodIn_of _ (by decide +kernel)) ggX4_searchFrom_X4_nearestUnsettled
set_option maxRecDepth 20000 in
theorem ggX4_searchFrom_X4_stepOnFrom : GoodIn wsX4_searchFrom wsX4_stepOnFrom := goodIn_r _ [11, 1, 12, 13, 14, 15, 16, 6, 17, 18, 19, 20, 21, 22, 23, 24, 25, 26, 27, 28, 29, 30, 31, 32, 33, 34, 35, 36, 37, 38, 39, 40, 41, 42, 43, 44, 45, 46, 47] (by decide +kernel) (by decide +kernel)
set_option maxRecDepth 20000 in
theorem gX4_searchFrom_X4_stepOnFrom : GoodIn wsX4_searchFrom (wsV RX4 23 RX4 yX4_stepOnFrom wsX4_stepOnFrom) := goodIn_app (goodIn_of _ (by decide +kernel)) ggX4_searchFrom_X4_stepOnFrom
theorem dX4_searchFrom_0 : decode cX4_searchFrom 0 = .ok (.iconst 0, 1) := by decide +kernel
theorem dX4_searchFrom_1 : decode cX4_searchFrom 1 = .ok (.istore 4, 2) := by decide +kernel
theorem dX4_searchFrom_3 : decode cX4_searchFrom 3 = .ok (.iload 4, 2) := by decide +kernel
theorem dX4_searchFrom_5 : decode cX4_searchFrom 5 = .ok (.sipush 144, 3) := by decide +kernel
theorem dX4_searchFrom_8 : decode cX4_searchFrom 8 = .ok (.if_icmp .ge 35, 3) := by decide +kernel
theorem dX4_searchFrom_11 : decode cX4_searchFrom 11 = .ok (.aload_n 0, 1) := by decide +kernel
theorem dX4_searchFrom_12 : decode cX4_searchFrom 12 = .ok (.getfield 9, 3) := by decide +kernel
theorem dX4_searchFrom_15 : decode cX4_searchFrom 15 = .ok (.iload 4, 2) := by decide +kernel
theorem dX4_searchFrom_17 : decode cX4_searchFrom 17 = .ok (.iload 4, 2) := by decide +kernel
theorem dX4_searchFrom_19 : decode cX4_searchFrom 19 = .ok (.iload_n 2, 1) := by decide +kernel
theorem dX4_searchFrom_20 : decode cX4_searchFrom 20 = .ok (.if_icmp .ne 7, 3) := by decide +kernel
theorem dX4_searchFrom_23 : decode cX4_searchFrom 23 = .ok (.iconst 0, 1) := by decide +kernel
theorem dX4_searchFrom_24 : decode cX4_searchFrom 24 = .ok (.goto 4, 3) := by decide +kernel
theorem dX4_searchFrom_27 : decode cX4_searchFrom 27 = .ok (.iconst (-1), 1) := by decide +kernel
theorem dX4_searchFrom_28 : decode cX4_searchFrom 28 = .ok (.iastore, 1) := by decide +kernel
theorem dX4_searchFrom_29 : decode cX4_searchFrom 29 = .ok (.aload_n 0, 1) := by decide +kernel
theorem dX4_searchFrom_30 : decode cX4_searchFrom 30 = .ok (.getfield 15, 3) := by decide +kernel
theorem dX4_searchFrom_33 : decode cX4_searchFrom 33 = .ok (.iload 4, 2) := by decide +kernel
theorem dX4_searchFrom_35 : decode cX4_searchFrom 35 = .ok (.iconst 0, 1) := by decide +kernel
theorem dX4_searchFrom_36 : decode cX4_searchFrom 36 = .ok (.bastore, 1) := by decide +kernel
theorem dX4_searchFrom_37 : decode cX4_searchFrom 37 = .ok (.iinc 4 1, 3) := by decide +kernel
theorem dX4_searchFrom_40 : decode cX4_searchFrom 40 = .ok (.goto (-37), 3) := by decide +kernel
theorem dX4_searchFrom_43 : decode cX4_searchFrom 43 = .ok (.iconst 0, 1) := by decide +kernel
theorem dX4_searchFrom_44 : decode cX4_searchFrom 44 = .ok (.istore 4, 2) := by decide +kernel
theorem dX4_searchFrom_46 : decode cX4_searchFrom 46 = .ok (.iload 4, 2) := by decide +kernel
theorem dX4_searchFrom_48 : decode cX4_searchFrom 48 = .ok (.sipush 144, 3) := by decide +kernel
theorem dX4_searchFrom_51 : decode cX4_searchFrom 51 = .ok (.if_icmp .ge 37, 3) := by decide +kernel
theorem dX4_searchFrom_54 : decode cX4_searchFrom 54 = .ok (.aload_n 0, 1) := by decide +kernel
theorem dX4_searchFrom_55 : decode cX4_searchFrom 55 = .ok (.invokevirtual 19, 3) := by decide +kernel
theorem dX4_searchFrom_58 : decode cX4_searchFrom 58 = .ok (.istore 5, 2) := by decide +kernel
theorem dX4_searchFrom_60 : decode cX4_searchFrom 60 = .ok (.iload 5, 2) := by decide +kernel
theorem dX4_searchFrom_62 : decode cX4_searchFrom 62 = .ok (.ifCond .ge 4, 3) := by decide +kernel
theorem dX4_searchFrom_65 : decode cX4_searchFrom 65 = .ok (.return_, 1) := by decide +kernel
theorem dX4_searchFrom_66 : decode cX4_searchFrom 66 = .ok (.aload_n 0, 1) := by decide +kernel
theorem dX4_searchFrom_67 : decode cX4_searchFrom 67 = .ok (.getfield 15, 3) := by decide +kernel
theorem dX4_searchFrom_70 : decode cX4_searchFrom 70 = .ok (.iload 5, 2) := by decide +kernel
theorem dX4_searchFrom_72 : decode cX4_searchFrom 72 = .ok (.iconst 1, 1) := by decide +kernel
theorem dX4_searchFrom_73 : decode cX4_searchFrom 73 = .ok (.bastore, 1) := by decide +kernel
theorem dX4_searchFrom_74 : decode cX4_searchFrom 74 = .ok (.aload_n 0, 1) := by decide +kernel
theorem dX4_searchFrom_75 : decode cX4_searchFrom 75 = .ok (.aload_n 1, 1) := by decide +kernel
theorem dX4_searchFrom_76 : decode cX4_searchFrom 76 = .ok (.iload 5, 2) := by decide +kernel
theorem dX4_searchFrom_78 : decode cX4_searchFrom 78 = .ok (.iload_n 3, 1) := by decide +kernel
theorem dX4_searchFrom_79 : decode cX4_searchFrom 79 = .ok (.invokevirtual 23, 3) := by decide +kernel
theorem dX4_searchFrom_82 : decode cX4_searchFrom 82 = .ok (.iinc 4 1, 3) := by decide +kernel
theorem dX4_searchFrom_85 : decode cX4_searchFrom 85 = .ok (.goto (-39), 3) := by decide +kernel
theorem dX4_searchFrom_88 : decode cX4_searchFrom 88 = .ok (.return_, 1) := by decide +kernel
theorem dX4_nearestUnsettled_0 : decode cX4_nearestUnsettled 0 = .ok (.iconst (-1), 1) := by decide +kernel
theorem dX4_nearestUnsettled_1 : decode cX4_nearestUnsettled 1 = .ok (.istore_n 1, 1) := by decide +kernel
theorem dX4_nearestUnsettled_2 : decode cX4_nearestUnsettled 2 = .ok (.iconst 0, 1) := by decide +kernel
theorem dX4_nearestUnsettled_3 : decode cX4_nearestUnsettled 3 = .ok (.istore_n 2, 1) := by decide +kernel
theorem dX4_nearestUnsettled_4 : decode cX4_nearestUnsettled 4 = .ok (.iload_n 2, 1) := by decide +kernel
theorem dX4_nearestUnsettled_5 : decode cX4_nearestUnsettled 5 = .ok (.sipush 144, 3) := by decide +kernel
theorem dX4_nearestUnsettled_8 : decode cX4_nearestUnsettled 8 = .ok (.if_icmp .ge 48, 3) := by decide +kernel
theorem dX4_nearestUnsettled_11 : decode cX4_nearestUnsettled 11 = .ok (.aload_n 0, 1) := by decide +kernel
theorem dX4_nearestUnsettled_12 : decode cX4_nearestUnsettled 12 = .ok (.getfield 15, 3) := by decide +kernel
theorem dX4_nearestUnsettled_15 : decode cX4_nearestUnsettled 15 = .ok (.iload_n 2, 1) := by decide +kernel
theorem dX4_nearestUnsettled_16 : decode cX4_nearestUnsettled 16 = .ok (.baload, 1) := by decide +kernel
theorem dX4_nearestUnsettled_17 : decode cX4_nearestUnsettled 17 = .ok (.ifCond .ne 33, 3) := by decide +kernel
theorem dX4_nearestUnsettled_20 : decode cX4_nearestUnsettled 20 = .ok (.aload_n 0, 1) := by decide +kernel
theorem dX4_nearestUnsettled_21 : decode cX4_nearestUnsettled 21 = .ok (.getfield 9, 3) := by decide +kernel
theorem dX4_nearestUnsettled_24 : decode cX4_nearestUnsettled 24 = .ok (.iload_n 2, 1) := by decide +kernel
theorem dX4_nearestUnsettled_25 : decode cX4_nearestUnsettled 25 = .ok (.iaload, 1) := by decide +kernel
theorem dX4_nearestUnsettled_26 : decode cX4_nearestUnsettled 26 = .ok (.ifCond .lt 24, 3) := by decide +kernel
theorem dX4_nearestUnsettled_29 : decode cX4_nearestUnsettled 29 = .ok (.iload_n 1, 1) := by decide +kernel
theorem dX4_nearestUnsettled_30 : decode cX4_nearestUnsettled 30 = .ok (.ifCond .lt 18, 3) := by decide +kernel
theorem dX4_nearestUnsettled_33 : decode cX4_nearestUnsettled 33 = .ok (.aload_n 0, 1) := by decide +kernel
theorem dX4_nearestUnsettled_34 : decode cX4_nearestUnsettled 34 = .ok (.getfield 9, 3) := by decide +kernel
theorem dX4_nearestUnsettled_37 : decode cX4_nearestUnsettled 37 = .ok (.iload_n 2, 1) := by decide +kernel
theorem dX4_nearestUnsettled_38 : decode cX4_nearestUnsettled 38 = .ok (.iaload, 1) := by decide +kernel
theorem dX4_nearestUnsettled_39 : decode cX4_nearestUnsettled 39 = .ok (.aload_n 0, 1) := by decide +kernel
theorem dX4_nearestUnsettled_40 : decode cX4_nearestUnsettled 40 = .ok (.getfield 9, 3) := by decide +kernel
theorem dX4_nearestUnsettled_43 : decode cX4_nearestUnsettled 43 = .ok (.iload_n 1, 1) := by decide +kernel
theorem dX4_nearestUnsettled_44 : decode cX4_nearestUnsettled 44 = .ok (.iaload, 1) := by decide +kernel
theorem dX4_nearestUnsettled_45 : decode cX4_nearestUnsettled 45 = .ok (.if_icmp .ge 5, 3) := by decide +kernel
theorem dX4_nearestUnsettled_48 : decode cX4_nearestUnsettled 48 = .ok (.iload_n 2, 1) := by decide +kernel
theorem dX4_nearestUnsettled_49 : decode cX4_nearestUnsettled 49 = .ok (.istore_n 1, 1) := by decide +kernel
theorem dX4_nearestUnsettled_50 : decode cX4_nearestUnsettled 50 = .ok (.iinc 2 1, 3) := by decide +kernel
theorem dX4_nearestUnsettled_53 : decode cX4_nearestUnsettled 53 = .ok (.goto (-49), 3) := by decide +kernel
theorem dX4_nearestUnsettled_56 : decode cX4_nearestUnsettled 56 = .ok (.iload_n 1, 1) := by decide +kernel
theorem dX4_nearestUnsettled_57 : decode cX4_nearestUnsettled 57 = .ok (.ireturn, 1) := by decide +kernel
set_option maxRecDepth 20000 in
theorem ggX4_stepOnFrom_X5_neighbour : GoodIn wsX4_stepOnFrom wsX5_neighbour := goodIn_r _ [4] (by decide +kernel) (by decide +kernel)
set_option maxRecDepth 20000 in
theorem gX4_stepOnFrom_X5_neighbour_n27 : GoodIn wsX4_stepOnFrom (wsX5_neighbour) := ggX4_stepOnFrom_X5_neighbour
set_option maxRecDepth 20000 in
theorem ggX4_stepOnFrom_X4_hoursInto : GoodIn wsX4_stepOnFrom wsX4_hoursInto := goodIn_r _ [8, 9, 10, 11, 12, 13, 14, 15, 16, 17, 18, 19, 20, 21, 22, 23, 24, 27, 28, 29, 30, 31, 32, 33, 34, 35, 36, 37, 38] (by decide +kernel) (by decide +kernel)
set_option maxRecDepth 20000 in
theorem gX4_stepOnFrom_X4_hoursInto : GoodIn wsX4_stepOnFrom (va_wsS RX4 31 yX4_hoursInto wsX4_hoursInto) := goodIn_app (goodIn_of _ (by decide +kernel)) ggX4_stepOnFrom_X4_hoursInto
theorem dX4_stepOnFrom_0 : decode cX4_stepOnFrom 0 = .ok (.iconst 0, 1) := by decide +kernel
theorem dX4_stepOnFrom_1 : decode cX4_stepOnFrom 1 = .ok (.istore 4, 2) := by decide +kernel
theorem dX4_stepOnFrom_3 : decode cX4_stepOnFrom 3 = .ok (.iload 4, 2) := by decide +kernel
theorem dX4_stepOnFrom_5 : decode cX4_stepOnFrom 5 = .ok (.iconst 4, 1) := by decide +kernel
theorem dX4_stepOnFrom_6 : decode cX4_stepOnFrom 6 = .ok (.if_icmp .ge 85, 3) := by decide +kernel
theorem dX4_stepOnFrom_9 : decode cX4_stepOnFrom 9 = .ok (.iload_n 2, 1) := by decide +kernel
theorem dX4_stepOnFrom_10 : decode cX4_stepOnFrom 10 = .ok (.iload 4, 2) := by decide +kernel
theorem dX4_stepOnFrom_12 : decode cX4_stepOnFrom 12 = .ok (.invokestatic 27, 3) := by decide +kernel
theorem dX4_stepOnFrom_15 : decode cX4_stepOnFrom 15 = .ok (.istore 5, 2) := by decide +kernel
theorem dX4_stepOnFrom_17 : decode cX4_stepOnFrom 17 = .ok (.iload 5, 2) := by decide +kernel
theorem dX4_stepOnFrom_19 : decode cX4_stepOnFrom 19 = .ok (.ifCond .ge 6, 3) := by decide +kernel
theorem dX4_stepOnFrom_22 : decode cX4_stepOnFrom 22 = .ok (.goto 63, 3) := by decide +kernel
theorem dX4_stepOnFrom_25 : decode cX4_stepOnFrom 25 = .ok (.aload_n 1, 1) := by decide +kernel
theorem dX4_stepOnFrom_26 : decode cX4_stepOnFrom 26 = .ok (.iload 5, 2) := by decide +kernel
theorem dX4_stepOnFrom_28 : decode cX4_stepOnFrom 28 = .ok (.iload_n 3, 1) := by decide +kernel
theorem dX4_stepOnFrom_29 : decode cX4_stepOnFrom 29 = .ok (.invokestatic 31, 3) := by decide +kernel
theorem dX4_stepOnFrom_32 : decode cX4_stepOnFrom 32 = .ok (.istore 6, 2) := by decide +kernel
theorem dX4_stepOnFrom_34 : decode cX4_stepOnFrom 34 = .ok (.iload 6, 2) := by decide +kernel
theorem dX4_stepOnFrom_36 : decode cX4_stepOnFrom 36 = .ok (.iconst (-1), 1) := by decide +kernel
theorem dX4_stepOnFrom_37 : decode cX4_stepOnFrom 37 = .ok (.if_icmp .eq 48, 3) := by decide +kernel
theorem dX4_stepOnFrom_40 : decode cX4_stepOnFrom 40 = .ok (.aload_n 0, 1) := by decide +kernel
theorem dX4_stepOnFrom_41 : decode cX4_stepOnFrom 41 = .ok (.getfield 9, 3) := by decide +kernel
theorem dX4_stepOnFrom_44 : decode cX4_stepOnFrom 44 = .ok (.iload 5, 2) := by decide +kernel
theorem dX4_stepOnFrom_46 : decode cX4_stepOnFrom 46 = .ok (.iaload, 1) := by decide +kernel
theorem dX4_stepOnFrom_47 : decode cX4_stepOnFrom 47 = .ok (.ifCond .lt 22, 3) := by decide +kernel
theorem dX4_stepOnFrom_50 : decode cX4_stepOnFrom 50 = .ok (.aload_n 0, 1) := by decide +kernel
theorem dX4_stepOnFrom_51 : decode cX4_stepOnFrom 51 = .ok (.getfield 9, 3) := by decide +kernel
theorem dX4_stepOnFrom_54 : decode cX4_stepOnFrom 54 = .ok (.iload_n 2, 1) := by decide +kernel
theorem dX4_stepOnFrom_55 : decode cX4_stepOnFrom 55 = .ok (.iaload, 1) := by decide +kernel
theorem dX4_stepOnFrom_56 : decode cX4_stepOnFrom 56 = .ok (.iload 6, 2) := by decide +kernel
theorem dX4_stepOnFrom_58 : decode cX4_stepOnFrom 58 = .ok (.iadd, 1) := by decide +kernel
theorem dX4_stepOnFrom_59 : decode cX4_stepOnFrom 59 = .ok (.aload_n 0, 1) := by decide +kernel
theorem dX4_stepOnFrom_60 : decode cX4_stepOnFrom 60 = .ok (.getfield 9, 3) := by decide +kernel
theorem dX4_stepOnFrom_63 : decode cX4_stepOnFrom 63 = .ok (.iload 5, 2) := by decide +kernel
theorem dX4_stepOnFrom_65 : decode cX4_stepOnFrom 65 = .ok (.iaload, 1) := by decide +kernel
theorem dX4_stepOnFrom_66 : decode cX4_stepOnFrom 66 = .ok (.if_icmp .ge 19, 3) := by decide +kernel
theorem dX4_stepOnFrom_69 : decode cX4_stepOnFrom 69 = .ok (.aload_n 0, 1) := by decide +kernel
theorem dX4_stepOnFrom_70 : decode cX4_stepOnFrom 70 = .ok (.getfield 9, 3) := by decide +kernel
theorem dX4_stepOnFrom_73 : decode cX4_stepOnFrom 73 = .ok (.iload 5, 2) := by decide +kernel
theorem dX4_stepOnFrom_75 : decode cX4_stepOnFrom 75 = .ok (.aload_n 0, 1) := by decide +kernel
theorem dX4_stepOnFrom_76 : decode cX4_stepOnFrom 76 = .ok (.getfield 9, 3) := by decide +kernel
theorem dX4_stepOnFrom_79 : decode cX4_stepOnFrom 79 = .ok (.iload_n 2, 1) := by decide +kernel
theorem dX4_stepOnFrom_80 : decode cX4_stepOnFrom 80 = .ok (.iaload, 1) := by decide +kernel
theorem dX4_stepOnFrom_81 : decode cX4_stepOnFrom 81 = .ok (.iload 6, 2) := by decide +kernel
theorem dX4_stepOnFrom_83 : decode cX4_stepOnFrom 83 = .ok (.iadd, 1) := by decide +kernel
theorem dX4_stepOnFrom_84 : decode cX4_stepOnFrom 84 = .ok (.iastore, 1) := by decide +kernel
theorem dX4_stepOnFrom_85 : decode cX4_stepOnFrom 85 = .ok (.iinc 4 1, 3) := by decide +kernel
theorem dX4_stepOnFrom_88 : decode cX4_stepOnFrom 88 = .ok (.goto (-85), 3) := by decide +kernel
theorem dX4_stepOnFrom_91 : decode cX4_stepOnFrom 91 = .ok (.return_, 1) := by decide +kernel
set_option maxRecDepth 20000 in
theorem ggX4_hoursInto_X0_isTunnel : GoodIn wsX4_hoursInto wsX0_isTunnel := goodIn_r _ [5, 6, 17, 18, 19, 20, 21, 22, 23, 24, 25, 26, 27, 28] (by decide +kernel) (by decide +kernel)
set_option maxRecDepth 20000 in
theorem gX4_hoursInto_X0_isTunnel : GoodIn wsX4_hoursInto (wsV RX4 35 RX0 yX0_isTunnel wsX0_isTunnel) := goodIn_app (goodIn_of _ (by decide +kernel)) ggX4_hoursInto_X0_isTunnel
set_option maxRecDepth 20000 in
theorem ggX4_hoursInto_X0_isRock : GoodIn wsX4_hoursInto wsX0_isRock := goodIn_r _ [10, 11, 17, 18, 19, 20, 21, 22, 23, 24, 25, 26, 27, 28] (by decide +kernel) (by decide +kernel)
set_option maxRecDepth 20000 in
theorem gX4_hoursInto_X0_isRock : GoodIn wsX4_hoursInto (wsV RX4 41 RX0 yX0_isRock wsX0_isRock) := goodIn_app (goodIn_of _ (by decide +kernel)) ggX4_hoursInto_X0_isRock
set_option maxRecDepth 20000 in
theorem ggX4_hoursInto_X0_workLeft : GoodIn wsX4_hoursInto wsX0_workLeft := goodIn_r _ [15, 11, 16, 17, 18, 19, 20, 21, 22, 23, 24, 25, 26, 27, 28] (by decide +kernel) (by decide +kernel)
set_option maxRecDepth 20000 in
theorem gX4_hoursInto_X0_workLeft : GoodIn wsX4_hoursInto (wsV RX4 44 RX0 yX0_workLeft wsX0_workLeft) := goodIn_app (goodIn_of _ (by decide +kernel)) ggX4_hoursInto_X0_workLeft
theorem dX4_hoursInto_0 : decode cX4_hoursInto 0 = .ok (.aload_n 0, 1) := by decide +kernel
theorem dX4_hoursInto_1 : decode cX4_hoursInto 1 = .ok (.iload_n 1, 1) := by decide +kernel
theorem dX4_hoursInto_2 : decode cX4_hoursInto 2 = .ok (.invokevirtual 35, 3) := by decide +kernel
theorem dX4_hoursInto_5 : decode cX4_hoursInto 5 = .ok (.ifCond .eq 5, 3) := by decide +kernel
theorem dX4_hoursInto_8 : decode cX4_hoursInto 8 = .ok (.iconst 1, 1) := by decide +kernel
theorem dX4_hoursInto_9 : decode cX4_hoursInto 9 = .ok (.ireturn, 1) := by decide +kernel
theorem dX4_hoursInto_10 : decode cX4_hoursInto 10 = .ok (.aload_n 0, 1) := by decide +kernel
theorem dX4_hoursInto_11 : decode cX4_hoursInto 11 = .ok (.iload_n 1, 1) := by decide +kernel
theorem dX4_hoursInto_12 : decode cX4_hoursInto 12 = .ok (.invokevirtual 41, 3) := by decide +kernel
theorem dX4_hoursInto_15 : decode cX4_hoursInto 15 = .ok (.ifCond .ne 7, 3) := by decide +kernel
theorem dX4_hoursInto_18 : decode cX4_hoursInto 18 = .ok (.iload_n 2, 1) := by decide +kernel
theorem dX4_hoursInto_19 : decode cX4_hoursInto 19 = .ok (.ifCond .gt 5, 3) := by decide +kernel
theorem dX4_hoursInto_22 : decode cX4_hoursInto 22 = .ok (.iconst (-1), 1) := by decide +kernel
theorem dX4_hoursInto_23 : decode cX4_hoursInto 23 = .ok (.ireturn, 1) := by decide +kernel
theorem dX4_hoursInto_24 : decode cX4_hoursInto 24 = .ok (.aload_n 0, 1) := by decide +kernel
theorem dX4_hoursInto_25 : decode cX4_hoursInto 25 = .ok (.iload_n 1, 1) := by decide +kernel
theorem dX4_hoursInto_26 : decode cX4_hoursInto 26 = .ok (.invokevirtual 44, 3) := by decide +kernel
theorem dX4_hoursInto_29 : decode cX4_hoursInto 29 = .ok (.iload_n 2, 1) := by decide +kernel
theorem dX4_hoursInto_30 : decode cX4_hoursInto 30 = .ok (.iadd, 1) := by decide +kernel
theorem dX4_hoursInto_31 : decode cX4_hoursInto 31 = .ok (.iconst 1, 1) := by decide +kernel
theorem dX4_hoursInto_32 : decode cX4_hoursInto 32 = .ok (.isub, 1) := by decide +kernel
theorem dX4_hoursInto_33 : decode cX4_hoursInto 33 = .ok (.iload_n 2, 1) := by decide +kernel
theorem dX4_hoursInto_34 : decode cX4_hoursInto 34 = .ok (.idiv, 1) := by decide +kernel
theorem dX4_hoursInto_35 : decode cX4_hoursInto 35 = .ok (.ireturn, 1) := by decide +kernel
theorem dX4_nearestWall_0 : decode cX4_nearestWall 0 = .ok (.iconst (-1), 1) := by decide +kernel
theorem dX4_nearestWall_1 : decode cX4_nearestWall 1 = .ok (.istore_n 2, 1) := by decide +kernel
theorem dX4_nearestWall_2 : decode cX4_nearestWall 2 = .ok (.iconst 0, 1) := by decide +kernel
theorem dX4_nearestWall_3 : decode cX4_nearestWall 3 = .ok (.istore_n 3, 1) := by decide +kernel
theorem dX4_nearestWall_4 : decode cX4_nearestWall 4 = .ok (.iload_n 3, 1) := by decide +kernel
theorem dX4_nearestWall_5 : decode cX4_nearestWall 5 = .ok (.sipush 144, 3) := by decide +kernel
theorem dX4_nearestWall_8 : decode cX4_nearestWall 8 = .ok (.if_icmp .ge 48, 3) := by decide +kernel
theorem dX4_nearestWall_11 : decode cX4_nearestWall 11 = .ok (.aload_n 1, 1) := by decide +kernel
theorem dX4_nearestWall_12 : decode cX4_nearestWall 12 = .ok (.getfield 48, 3) := by decide +kernel
theorem dX4_nearestWall_15 : decode cX4_nearestWall 15 = .ok (.iload_n 3, 1) := by decide +kernel
theorem dX4_nearestWall_16 : decode cX4_nearestWall 16 = .ok (.iaload, 1) := by decide +kernel
theorem dX4_nearestWall_17 : decode cX4_nearestWall 17 = .ok (.ifCond .le 33, 3) := by decide +kernel
theorem dX4_nearestWall_20 : decode cX4_nearestWall 20 = .ok (.aload_n 0, 1) := by decide +kernel
theorem dX4_nearestWall_21 : decode cX4_nearestWall 21 = .ok (.getfield 9, 3) := by decide +kernel
theorem dX4_nearestWall_24 : decode cX4_nearestWall 24 = .ok (.iload_n 3, 1) := by decide +kernel
theorem dX4_nearestWall_25 : decode cX4_nearestWall 25 = .ok (.iaload, 1) := by decide +kernel
theorem dX4_nearestWall_26 : decode cX4_nearestWall 26 = .ok (.ifCond .lt 24, 3) := by decide +kernel
theorem dX4_nearestWall_29 : decode cX4_nearestWall 29 = .ok (.iload_n 2, 1) := by decide +kernel
theorem dX4_nearestWall_30 : decode cX4_nearestWall 30 = .ok (.ifCond .lt 18, 3) := by decide +kernel
theorem dX4_nearestWall_33 : decode cX4_nearestWall 33 = .ok (.aload_n 0, 1) := by decide +kernel
theorem dX4_nearestWall_34 : decode cX4_nearestWall 34 = .ok (.getfield 9, 3) := by decide +kernel
theorem dX4_nearestWall_37 : decode cX4_nearestWall 37 = .ok (.iload_n 3, 1) := by decide +kernel
theorem dX4_nearestWall_38 : decode cX4_nearestWall 38 = .ok (.iaload, 1) := by decide +kernel
theorem dX4_nearestWall_39 : decode cX4_nearestWall 39 = .ok (.aload_n 0, 1) := by decide +kernel
theorem dX4_nearestWall_40 : decode cX4_nearestWall 40 = .ok (.getfield 9, 3) := by decide +kernel
theorem dX4_nearestWall_43 : decode cX4_nearestWall 43 = .ok (.iload_n 2, 1) := by decide +kernel
theorem dX4_nearestWall_44 : decode cX4_nearestWall 44 = .ok (.iaload, 1) := by decide +kernel
theorem dX4_nearestWall_45 : decode cX4_nearestWall 45 = .ok (.if_icmp .ge 5, 3) := by decide +kernel
theorem dX4_nearestWall_48 : decode cX4_nearestWall 48 = .ok (.iload_n 3, 1) := by decide +kernel
theorem dX4_nearestWall_49 : decode cX4_nearestWall 49 = .ok (.istore_n 2, 1) := by decide +kernel
theorem dX4_nearestWall_50 : decode cX4_nearestWall 50 = .ok (.iinc 3 1, 3) := by decide +kernel
theorem dX4_nearestWall_53 : decode cX4_nearestWall 53 = .ok (.goto (-49), 3) := by decide +kernel
theorem dX4_nearestWall_56 : decode cX4_nearestWall 56 = .ok (.iload_n 2, 1) := by decide +kernel
theorem dX4_nearestWall_57 : decode cX4_nearestWall 57 = .ok (.ireturn, 1) := by decide +kernel
set_option maxRecDepth 20000 in
theorem ggX5_init_X2_init : GoodIn wsX5_init wsX2_init := goodIn_r _ [21, 22, 2, 3, 8, 23, 24, 84, 85] (by decide +kernel) (by decide +kernel)
set_option maxRecDepth 20000 in
theorem gX5_init_X2_init_n9 : GoodIn wsX5_init (wsX2_init) := ggX5_init_X2_init
set_option maxRecDepth 20000 in
theorem ggX5_init_X1_init : GoodIn wsX5_init wsX1_init := goodIn_r _ [27, 28, 2, 3, 29, 30, 31, 32, 33, 34, 35, 36, 37, 38, 39, 40, 41, 42, 8, 43, 44, 45, 46, 47, 48, 49, 50, 51, 52, 53, 54, 55, 56, 57, 58, 59, 60, 61, 62, 63, 64, 65, 66, 67, 68, 69, 70, 71, 72, 73, 74, 75, 76, 77, 98, 99, 100, 101, 102, 103, 104, 105, 106, 107, 108, 109, 92, 93, 94, 95, 110, 111, 112, 113, 114, 115, 116, 117, 118, 119, 120, 121, 122, 123, 124, 125] (by decide +kernel) (by decide +kernel)
set_option maxRecDepth 20000 in
theorem gX5_init_X1_init : GoodIn wsX5_init (wsX1_init) := ggX5_init_X1_init
set_option maxRecDepth 20000 in
theorem ggX5_init_X4_init : GoodIn wsX5_init wsX4_init := goodIn_r _ [79, 80, 2, 3, 8, 81, 82, 83, 96, 97] (by decide +kernel) (by decide +kernel)
set_option maxRecDepth 20000 in
theorem gX5_init_X4_init_n36 : GoodIn wsX5_init (wsX4_init) := ggX5_init_X4_init
theorem dX5_init_0 : decode cX5_init 0 = .ok (.aload_n 0, 1) := by decide +kernel
theorem dX5_init_1 : decode cX5_init 1 = .ok (.invokespecial 1, 3) := by decide +kernel
theorem dX5_init_4 : decode cX5_init 4 = .ok (.aload_n 0, 1) := by decide +kernel
theorem dX5_init_5 : decode cX5_init 5 = .ok (.new 7, 3) := by decide +kernel
theorem dX5_init_8 : decode cX5_init 8 = .ok (.dup, 1) := by decide +kernel
theorem dX5_init_9 : decode cX5_init 9 = .ok (.invokespecial 9, 3) := by decide +kernel
theorem dX5_init_12 : decode cX5_init 12 = .ok (.putfield 10, 3) := by decide +kernel
theorem dX5_init_15 : decode cX5_init 15 = .ok (.aload_n 0, 1) := by decide +kernel
theorem dX5_init_16 : decode cX5_init 16 = .ok (.sipush 156, 3) := by decide +kernel
theorem dX5_init_19 : decode cX5_init 19 = .ok (.newarray .int, 2) := by decide +kernel
theorem dX5_init_21 : decode cX5_init 21 = .ok (.putfield 16, 3) := by decide +kernel
theorem dX5_init_24 : decode cX5_init 24 = .ok (.aload_n 0, 1) := by decide +kernel
theorem dX5_init_25 : decode cX5_init 25 = .ok (.iconst 0, 1) := by decide +kernel
theorem dX5_init_26 : decode cX5_init 26 = .ok (.putfield 20, 3) := by decide +kernel
theorem dX5_init_29 : decode cX5_init 29 = .ok (.aload_n 0, 1) := by decide +kernel
theorem dX5_init_30 : decode cX5_init 30 = .ok (.new 24, 3) := by decide +kernel
theorem dX5_init_33 : decode cX5_init 33 = .ok (.dup, 1) := by decide +kernel
theorem dX5_init_34 : decode cX5_init 34 = .ok (.invokespecial 26, 3) := by decide +kernel
theorem dX5_init_37 : decode cX5_init 37 = .ok (.putfield 27, 3) := by decide +kernel
theorem dX5_init_40 : decode cX5_init 40 = .ok (.aload_n 0, 1) := by decide +kernel
theorem dX5_init_41 : decode cX5_init 41 = .ok (.new 24, 3) := by decide +kernel
theorem dX5_init_44 : decode cX5_init 44 = .ok (.dup, 1) := by decide +kernel
theorem dX5_init_45 : decode cX5_init 45 = .ok (.invokespecial 26, 3) := by decide +kernel
theorem dX5_init_48 : decode cX5_init 48 = .ok (.putfield 31, 3) := by decide +kernel
theorem dX5_init_51 : decode cX5_init 51 = .ok (.aload_n 0, 1) := by decide +kernel
theorem dX5_init_52 : decode cX5_init 52 = .ok (.new 34, 3) := by decide +kernel
theorem dX5_init_55 : decode cX5_init 55 = .ok (.dup, 1) := by decide +kernel
theorem dX5_init_56 : decode cX5_init 56 = .ok (.invokespecial 36, 3) := by decide +kernel
theorem dX5_init_59 : decode cX5_init 59 = .ok (.putfield 37, 3) := by decide +kernel
theorem dX5_init_62 : decode cX5_init 62 = .ok (.return_, 1) := by decide +kernel
set_option maxRecDepth 20000 in
theorem ggX5_feed_X2_append : GoodIn wsX5_feed wsX2_append := goodIn_r _ [9, 10, 11, 18, 19] (by decide +kernel) (by decide +kernel)
set_option maxRecDepth 20000 in
theorem gX5_feed_X2_append : GoodIn wsX5_feed (wsV RX5 51 RX2 yX2_append wsX2_append) := goodIn_app (goodIn_of _ (by decide +kernel)) ggX5_feed_X2_append
theorem dX5_feed_0 : decode cX5_feed 0 = .ok (.aload_n 0, 1) := by decide +kernel
theorem dX5_feed_1 : decode cX5_feed 1 = .ok (.getfield 10, 3) := by decide +kernel
theorem dX5_feed_4 : decode cX5_feed 4 = .ok (.getfield 41, 3) := by decide +kernel
theorem dX5_feed_7 : decode cX5_feed 7 = .ok (.bipush 20, 2) := by decide +kernel
theorem dX5_feed_9 : decode cX5_feed 9 = .ok (.iadd, 1) := by decide +kernel
theorem dX5_feed_10 : decode cX5_feed 10 = .ok (.sipush 200, 3) := by decide +kernel
theorem dX5_feed_13 : decode cX5_feed 13 = .ok (.if_icmp .le 13, 3) := by decide +kernel
theorem dX5_feed_16 : decode cX5_feed 16 = .ok (.new 44, 3) := by decide +kernel
theorem dX5_feed_19 : decode cX5_feed 19 = .ok (.dup, 1) := by decide +kernel
theorem dX5_feed_20 : decode cX5_feed 20 = .ok (.ldc 46, 2) := by decide +kernel
theorem dX5_feed_22 : decode cX5_feed 22 = .ok (.invokespecial 48, 3) := by decide +kernel
theorem dX5_feed_25 : decode cX5_feed 25 = .ok (.athrow, 1) := by decide +kernel
theorem dX5_feed_26 : decode cX5_feed 26 = .ok (.aload_n 0, 1) := by decide +kernel
theorem dX5_feed_27 : decode cX5_feed 27 = .ok (.getfield 10, 3) := by decide +kernel
theorem dX5_feed_30 : decode cX5_feed 30 = .ok (.iload_n 1, 1) := by decide +kernel
theorem dX5_feed_31 : decode cX5_feed 31 = .ok (.invokevirtual 51, 3) := by decide +kernel
theorem dX5_feed_34 : decode cX5_feed 34 = .ok (.aload_n 0, 1) := by decide +kernel
theorem dX5_feed_35 : decode cX5_feed 35 = .ok (.getfield 10, 3) := by decide +kernel
theorem dX5_feed_38 : decode cX5_feed 38 = .ok (.iload_n 2, 1) := by decide +kernel
theorem dX5_feed_39 : decode cX5_feed 39 = .ok (.invokevirtual 51, 3) := by decide +kernel
theorem dX5_feed_42 : decode cX5_feed 42 = .ok (.aload_n 0, 1) := by decide +kernel
theorem dX5_feed_43 : decode cX5_feed 43 = .ok (.getfield 10, 3) := by decide +kernel
theorem dX5_feed_46 : decode cX5_feed 46 = .ok (.iload_n 3, 1) := by decide +kernel
theorem dX5_feed_47 : decode cX5_feed 47 = .ok (.invokevirtual 51, 3) := by decide +kernel
theorem dX5_feed_50 : decode cX5_feed 50 = .ok (.aload_n 0, 1) := by decide +kernel
theorem dX5_feed_51 : decode cX5_feed 51 = .ok (.getfield 10, 3) := by decide +kernel
theorem dX5_feed_54 : decode cX5_feed 54 = .ok (.iload 4, 2) := by decide +kernel
theorem dX5_feed_56 : decode cX5_feed 56 = .ok (.invokevirtual 51, 3) := by decide +kernel
theorem dX5_feed_59 : decode cX5_feed 59 = .ok (.aload_n 0, 1) := by decide +kernel
theorem dX5_feed_60 : decode cX5_feed 60 = .ok (.getfield 10, 3) := by decide +kernel
theorem dX5_feed_63 : decode cX5_feed 63 = .ok (.iload 5, 2) := by decide +kernel
theorem dX5_feed_65 : decode cX5_feed 65 = .ok (.invokevirtual 51, 3) := by decide +kernel
theorem dX5_feed_68 : decode cX5_feed 68 = .ok (.aload_n 0, 1) := by decide +kernel
theorem dX5_feed_69 : decode cX5_feed 69 = .ok (.getfield 10, 3) := by decide +kernel
theorem dX5_feed_72 : decode cX5_feed 72 = .ok (.getfield 41, 3) := by decide +kernel
theorem dX5_feed_75 : decode cX5_feed 75 = .ok (.ireturn, 1) := by decide +kernel
theorem dX5_trim_0 : decode cX5_trim 0 = .ok (.iload_n 1, 1) := by decide +kernel
theorem dX5_trim_1 : decode cX5_trim 1 = .ok (.ifCond .lt 14, 3) := by decide +kernel
theorem dX5_trim_4 : decode cX5_trim 4 = .ok (.iload_n 1, 1) := by decide +kernel
theorem dX5_trim_5 : decode cX5_trim 5 = .ok (.aload_n 0, 1) := by decide +kernel
theorem dX5_trim_6 : decode cX5_trim 6 = .ok (.getfield 10, 3) := by decide +kernel
theorem dX5_trim_9 : decode cX5_trim 9 = .ok (.getfield 41, 3) := by decide +kernel
theorem dX5_trim_12 : decode cX5_trim 12 = .ok (.if_icmp .le 13, 3) := by decide +kernel
theorem dX5_trim_15 : decode cX5_trim 15 = .ok (.new 55, 3) := by decide +kernel
theorem dX5_trim_18 : decode cX5_trim 18 = .ok (.dup, 1) := by decide +kernel
theorem dX5_trim_19 : decode cX5_trim 19 = .ok (.ldc 57, 2) := by decide +kernel
theorem dX5_trim_21 : decode cX5_trim 21 = .ok (.invokespecial 59, 3) := by decide +kernel
theorem dX5_trim_24 : decode cX5_trim 24 = .ok (.athrow, 1) := by decide +kernel
theorem dX5_trim_25 : decode cX5_trim 25 = .ok (.aload_n 0, 1) := by decide +kernel
theorem dX5_trim_26 : decode cX5_trim 26 = .ok (.getfield 10, 3) := by decide +kernel
theorem dX5_trim_29 : decode cX5_trim 29 = .ok (.iload_n 1, 1) := by decide +kernel
theorem dX5_trim_30 : decode cX5_trim 30 = .ok (.putfield 41, 3) := by decide +kernel
theorem dX5_trim_33 : decode cX5_trim 33 = .ok (.iload_n 1, 1) := by decide +kernel
theorem dX5_trim_34 : decode cX5_trim 34 = .ok (.ireturn, 1) := by decide +kernel
set_option maxRecDepth 20000 in
theorem ggX5_map_X2_placeOfError : GoodIn wsX5_map wsX2_placeOfError := goodIn_r _ [11, 12, 13, 14, 15, 10, 16, 17, 57, 58] (by decide +kernel) (by decide +kernel)
set_option maxRecDepth 20000 in
theorem gX5_map_X2_placeOfError : GoodIn wsX5_map (wsV RX5 60 RX2 yX2_placeOfError wsX2_placeOfError) := goodIn_app (goodIn_of _ (by decide +kernel)) ggX5_map_X2_placeOfError
set_option maxRecDepth 20000 in
theorem ggX5_map_X0_readMap : GoodIn wsX5_map wsX0_readMap := goodIn_r _ [22, 23, 24, 25, 21, 26, 27, 28, 29, 30, 31, 32, 33, 34, 35, 36, 37, 38, 39, 40, 41, 42, 43, 44, 45, 46, 59, 60, 61, 62, 63, 64, 65, 66, 67, 68, 69, 70] (by decide +kernel) (by decide +kernel)
set_option maxRecDepth 20000 in
theorem gX5_map_X0_readMap : GoodIn wsX5_map (wsV RX5 71 RX0 yX0_readMap wsX0_readMap) := goodIn_app (goodIn_of _ (by decide +kernel)) ggX5_map_X0_readMap
theorem dX5_map_0 : decode cX5_map 0 = .ok (.aload_n 0, 1) := by decide +kernel
theorem dX5_map_1 : decode cX5_map 1 = .ok (.getfield 10, 3) := by decide +kernel
theorem dX5_map_4 : decode cX5_map 4 = .ok (.invokevirtual 60, 3) := by decide +kernel
theorem dX5_map_7 : decode cX5_map 7 = .ok (.istore_n 1, 1) := by decide +kernel
theorem dX5_map_8 : decode cX5_map 8 = .ok (.iload_n 1, 1) := by decide +kernel
theorem dX5_map_9 : decode cX5_map 9 = .ok (.ifCond .ge 28, 3) := by decide +kernel
theorem dX5_map_12 : decode cX5_map 12 = .ok (.aload_n 0, 1) := by decide +kernel
theorem dX5_map_13 : decode cX5_map 13 = .ok (.getfield 27, 3) := by decide +kernel
theorem dX5_map_16 : decode cX5_map 16 = .ok (.getfield 64, 3) := by decide +kernel
theorem dX5_map_19 : decode cX5_map 19 = .ok (.aload_n 0, 1) := by decide +kernel
theorem dX5_map_20 : decode cX5_map 20 = .ok (.getfield 10, 3) := by decide +kernel
theorem dX5_map_23 : decode cX5_map 23 = .ok (.getfield 68, 3) := by decide +kernel
theorem dX5_map_26 : decode cX5_map 26 = .ok (.invokevirtual 71, 3) := by decide +kernel
theorem dX5_map_29 : decode cX5_map 29 = .ok (.aload_n 0, 1) := by decide +kernel
theorem dX5_map_30 : decode cX5_map 30 = .ok (.getfield 27, 3) := by decide +kernel
theorem dX5_map_33 : decode cX5_map 33 = .ok (.iconst 0, 1) := by decide +kernel
theorem dX5_map_34 : decode cX5_map 34 = .ok (.putfield 77, 3) := by decide +kernel
theorem dX5_map_37 : decode cX5_map 37 = .ok (.aload_n 0, 1) := by decide +kernel
theorem dX5_map_38 : decode cX5_map 38 = .ok (.getfield 10, 3) := by decide +kernel
theorem dX5_map_41 : decode cX5_map 41 = .ok (.iconst 0, 1) := by decide +kernel
theorem dX5_map_42 : decode cX5_map 42 = .ok (.putfield 41, 3) := by decide +kernel
theorem dX5_map_45 : decode cX5_map 45 = .ok (.iload_n 1, 1) := by decide +kernel
theorem dX5_map_46 : decode cX5_map 46 = .ok (.ireturn, 1) := by decide +kernel
set_option maxRecDepth 20000 in
theorem ggX5_openAt_X5_isInside : GoodIn wsX5_openAt wsX5_isInside := goodIn_r _ [11] (by decide +kernel) (by decide +kernel)
set_option maxRecDepth 20000 in
theorem gX5_openAt_X5_isInside : GoodIn wsX5_openAt (va_wsS RX5 80 yX5_isInside wsX5_isInside) := goodIn_app (goodIn_of _ (by decide +kernel)) ggX5_openAt_X5_isInside
set_option maxRecDepth 20000 in
theorem ggX5_openAt_X5_cellAt : GoodIn wsX5_openAt wsX5_cellAt := goodIn_r _ [14] (by decide +kernel) (by decide +kernel)
set_option maxRecDepth 20000 in
theorem gX5_openAt_X5_cellAt : GoodIn wsX5_openAt (va_wsS RX5 89 yX5_cellAt wsX5_cellAt) := goodIn_app (goodIn_of _ (by decide +kernel)) ggX5_openAt_X5_cellAt
set_option maxRecDepth 20000 in
theorem ggX5_openAt_X0_isRock : GoodIn wsX5_openAt wsX0_isRock := goodIn_r _ [19, 20, 49, 50, 51, 52, 53, 54, 55, 56, 57, 58, 59, 60] (by decide +kernel) (by decide +kernel)
set_option maxRecDepth 20000 in
theorem gX5_openAt_X0_isRock : GoodIn wsX5_openAt (wsV RX5 93 RX0 yX0_isRock wsX0_isRock) := goodIn_app (goodIn_of _ (by decide +kernel)) ggX5_openAt_X0_isRock
set_option maxRecDepth 20000 in
theorem ggX5_openAt_X0_isTunnel : GoodIn wsX5_openAt wsX0_isTunnel := goodIn_r _ [24, 25, 49, 50, 51, 52, 53, 54, 55, 56, 57, 58, 59, 60] (by decide +kernel) (by decide +kernel)
set_option maxRecDepth 20000 in
theorem gX5_openAt_X0_isTunnel : GoodIn wsX5_openAt (wsV RX5 97 RX0 yX0_isTunnel wsX0_isTunnel) := goodIn_app (goodIn_of _ (by decide +kernel)) ggX5_openAt_X0_isTunnel
set_option maxRecDepth 20000 in
theorem ggX5_openAt_X0_openTunnel : GoodIn wsX5_openAt wsX0_openTunnel := goodIn_r _ [29, 25, 30, 31, 32, 18, 33, 34, 35, 36, 37, 38, 49, 50, 51, 52, 53, 54, 55, 56, 57, 58, 59, 60] (by decide +kernel) (by decide +kernel)
set_option maxRecDepth 20000 in
theorem gX5_openAt_X0_openTunnel : GoodIn wsX5_openAt (wsV RX5 102 RX0 yX0_openTunnel wsX0_openTunnel) := goodIn_app (goodIn_of _ (by decide +kernel)) ggX5_openAt_X0_openTunnel
theorem dX5_openAt_0 : decode cX5_openAt 0 = .ok (.iload_n 1, 1) := by decide +kernel
theorem dX5_openAt_1 : decode cX5_openAt 1 = .ok (.iload_n 2, 1) := by decide +kernel
theorem dX5_openAt_2 : decode cX5_openAt 2 = .ok (.invokestatic 80, 3) := by decide +kernel
theorem dX5_openAt_5 : decode cX5_openAt 5 = .ok (.ifCond .ne 13, 3) := by decide +kernel
theorem dX5_openAt_8 : decode cX5_openAt 8 = .ok (.new 84, 3) := by decide +kernel
theorem dX5_openAt_11 : decode cX5_openAt 11 = .ok (.dup, 1) := by decide +kernel
theorem dX5_openAt_12 : decode cX5_openAt 12 = .ok (.ldc 86, 2) := by decide +kernel
theorem dX5_openAt_14 : decode cX5_openAt 14 = .ok (.invokespecial 88, 3) := by decide +kernel
theorem dX5_openAt_17 : decode cX5_openAt 17 = .ok (.athrow, 1) := by decide +kernel
theorem dX5_openAt_18 : decode cX5_openAt 18 = .ok (.iload_n 1, 1) := by decide +kernel
theorem dX5_openAt_19 : decode cX5_openAt 19 = .ok (.iload_n 2, 1) := by decide +kernel
theorem dX5_openAt_20 : decode cX5_openAt 20 = .ok (.invokestatic 89, 3) := by decide +kernel
theorem dX5_openAt_23 : decode cX5_openAt 23 = .ok (.istore_n 3, 1) := by decide +kernel
theorem dX5_openAt_24 : decode cX5_openAt 24 = .ok (.aload_n 0, 1) := by decide +kernel
theorem dX5_openAt_25 : decode cX5_openAt 25 = .ok (.getfield 27, 3) := by decide +kernel
theorem dX5_openAt_28 : decode cX5_openAt 28 = .ok (.getfield 64, 3) := by decide +kernel
theorem dX5_openAt_31 : decode cX5_openAt 31 = .ok (.astore 4, 2) := by decide +kernel
theorem dX5_openAt_33 : decode cX5_openAt 33 = .ok (.aload 4, 2) := by decide +kernel
theorem dX5_openAt_35 : decode cX5_openAt 35 = .ok (.iload_n 3, 1) := by decide +kernel
theorem dX5_openAt_36 : decode cX5_openAt 36 = .ok (.invokevirtual 93, 3) := by decide +kernel
theorem dX5_openAt_39 : decode cX5_openAt 39 = .ok (.ifCond .ne 12, 3) := by decide +kernel
theorem dX5_openAt_42 : decode cX5_openAt 42 = .ok (.aload 4, 2) := by decide +kernel
theorem dX5_openAt_44 : decode cX5_openAt 44 = .ok (.iload_n 3, 1) := by decide +kernel
theorem dX5_openAt_45 : decode cX5_openAt 45 = .ok (.invokevirtual 97, 3) := by decide +kernel
theorem dX5_openAt_48 : decode cX5_openAt 48 = .ok (.ifCond .eq 13, 3) := by decide +kernel
theorem dX5_openAt_51 : decode cX5_openAt 51 = .ok (.new 44, 3) := by decide +kernel
theorem dX5_openAt_54 : decode cX5_openAt 54 = .ok (.dup, 1) := by decide +kernel
theorem dX5_openAt_55 : decode cX5_openAt 55 = .ok (.ldc 100, 2) := by decide +kernel
theorem dX5_openAt_57 : decode cX5_openAt 57 = .ok (.invokespecial 48, 3) := by decide +kernel
theorem dX5_openAt_60 : decode cX5_openAt 60 = .ok (.athrow, 1) := by decide +kernel
theorem dX5_openAt_61 : decode cX5_openAt 61 = .ok (.aload 4, 2) := by decide +kernel
theorem dX5_openAt_63 : decode cX5_openAt 63 = .ok (.iload_n 3, 1) := by decide +kernel
theorem dX5_openAt_64 : decode cX5_openAt 64 = .ok (.invokevirtual 102, 3) := by decide +kernel
theorem dX5_openAt_67 : decode cX5_openAt 67 = .ok (.aload 4, 2) := by decide +kernel
theorem dX5_openAt_69 : decode cX5_openAt 69 = .ok (.getfield 105, 3) := by decide +kernel
theorem dX5_openAt_72 : decode cX5_openAt 72 = .ok (.iload_n 3, 1) := by decide +kernel
theorem dX5_openAt_73 : decode cX5_openAt 73 = .ok (.iaload, 1) := by decide +kernel
theorem dX5_openAt_74 : decode cX5_openAt 74 = .ok (.ireturn, 1) := by decide +kernel
set_option maxRecDepth 20000 in
theorem ggX5_cell_X5_isInside : GoodIn wsX5_cell wsX5_isInside := goodIn_r _ [8] (by decide +kernel) (by decide +kernel)
set_option maxRecDepth 20000 in
theorem gX5_cell_X5_isInside : GoodIn wsX5_cell (va_wsS RX5 80 yX5_isInside wsX5_isInside) := goodIn_app (goodIn_of _ (by decide +kernel)) ggX5_cell_X5_isInside
set_option maxRecDepth 20000 in
theorem ggX5_cell_X5_cellAt : GoodIn wsX5_cell wsX5_cellAt := goodIn_r _ [11] (by decide +kernel) (by decide +kernel)
set_option maxRecDepth 20000 in
theorem gX5_cell_X5_cellAt : GoodIn wsX5_cell (va_wsS RX5 89 yX5_cellAt wsX5_cellAt) := goodIn_app (goodIn_of _ (by decide +kernel)) ggX5_cell_X5_cellAt
set_option maxRecDepth 20000 in
theorem ggX5_cell_X0_valueOf : GoodIn wsX5_cell wsX0_valueOf := goodIn_r _ [16, 17, 18, 19, 20, 21, 22, 23, 24, 35, 36, 37, 38, 39, 40, 41, 42, 43, 44, 45, 46] (by decide +kernel) (by decide +kernel)
set_option maxRecDepth 20000 in
theorem gX5_cell_X0_valueOf : GoodIn wsX5_cell (wsV RX5 110 RX0 yX0_valueOf wsX0_valueOf) := goodIn_app (goodIn_of _ (by decide +kernel)) ggX5_cell_X0_valueOf
theorem dX5_cell_0 : decode cX5_cell 0 = .ok (.iload_n 1, 1) := by decide +kernel
theorem dX5_cell_1 : decode cX5_cell 1 = .ok (.iload_n 2, 1) := by decide +kernel
theorem dX5_cell_2 : decode cX5_cell 2 = .ok (.invokestatic 80, 3) := by decide +kernel
theorem dX5_cell_5 : decode cX5_cell 5 = .ok (.ifCond .eq 13, 3) := by decide +kernel
theorem dX5_cell_8 : decode cX5_cell 8 = .ok (.iload_n 3, 1) := by decide +kernel
theorem dX5_cell_9 : decode cX5_cell 9 = .ok (.ifCond .lt 9, 3) := by decide +kernel
theorem dX5_cell_12 : decode cX5_cell 12 = .ok (.iload_n 3, 1) := by decide +kernel
theorem dX5_cell_13 : decode cX5_cell 13 = .ok (.bipush 8, 2) := by decide +kernel
theorem dX5_cell_15 : decode cX5_cell 15 = .ok (.if_icmp .lt 13, 3) := by decide +kernel
theorem dX5_cell_18 : decode cX5_cell 18 = .ok (.new 84, 3) := by decide +kernel
theorem dX5_cell_21 : decode cX5_cell 21 = .ok (.dup, 1) := by decide +kernel
theorem dX5_cell_22 : decode cX5_cell 22 = .ok (.ldc 108, 2) := by decide +kernel
theorem dX5_cell_24 : decode cX5_cell 24 = .ok (.invokespecial 88, 3) := by decide +kernel
theorem dX5_cell_27 : decode cX5_cell 27 = .ok (.athrow, 1) := by decide +kernel
theorem dX5_cell_28 : decode cX5_cell 28 = .ok (.aload_n 0, 1) := by decide +kernel
theorem dX5_cell_29 : decode cX5_cell 29 = .ok (.getfield 27, 3) := by decide +kernel
theorem dX5_cell_32 : decode cX5_cell 32 = .ok (.getfield 64, 3) := by decide +kernel
theorem dX5_cell_35 : decode cX5_cell 35 = .ok (.iload_n 1, 1) := by decide +kernel
theorem dX5_cell_36 : decode cX5_cell 36 = .ok (.iload_n 2, 1) := by decide +kernel
theorem dX5_cell_37 : decode cX5_cell 37 = .ok (.invokestatic 89, 3) := by decide +kernel
theorem dX5_cell_40 : decode cX5_cell 40 = .ok (.iload_n 3, 1) := by decide +kernel
theorem dX5_cell_41 : decode cX5_cell 41 = .ok (.invokevirtual 110, 3) := by decide +kernel
theorem dX5_cell_44 : decode cX5_cell 44 = .ok (.ireturn, 1) := by decide +kernel
set_option maxRecDepth 20000 in
theorem ggX5_come_X5_isInside : GoodIn wsX5_come wsX5_isInside := goodIn_r _ [14] (by decide +kernel) (by decide +kernel)
set_option maxRecDepth 20000 in
theorem gX5_come_X5_isInside : GoodIn wsX5_come (va_wsS RX5 80 yX5_isInside wsX5_isInside) := goodIn_app (goodIn_of _ (by decide +kernel)) ggX5_come_X5_isInside
set_option maxRecDepth 20000 in
theorem ggX5_come_X5_cellAt : GoodIn wsX5_come wsX5_cellAt := goodIn_r _ [17] (by decide +kernel) (by decide +kernel)
set_option maxRecDepth 20000 in
theorem gX5_come_X5_cellAt : GoodIn wsX5_come (va_wsS RX5 89 yX5_cellAt wsX5_cellAt) := goodIn_app (goodIn_of _ (by decide +kernel)) ggX5_come_X5_cellAt
set_option maxRecDepth 20000 in
theorem ggX5_come_X0_isTunnel : GoodIn wsX5_come wsX0_isTunnel := goodIn_r _ [22, 23, 56, 57, 58, 59, 60, 61, 62, 63, 64, 65, 66, 67] (by decide +kernel) (by decide +kernel)
set_option maxRecDepth 20000 in
theorem gX5_come_X0_isTunnel : GoodIn wsX5_come (wsV RX5 97 RX0 yX0_isTunnel wsX0_isTunnel) := goodIn_app (goodIn_of _ (by decide +kernel)) ggX5_come_X0_isTunnel
set_option maxRecDepth 20000 in
theorem ggX5_come_X3_start : GoodIn wsX5_come wsX3_start := goodIn_r _ [28, 29, 30, 31, 32, 33, 34, 35, 36, 37, 38, 39, 40, 27, 41, 42, 43, 44, 45, 68, 69, 70, 71, 72, 73, 74, 75, 76, 77, 78, 79, 80, 81, 82, 83] (by decide +kernel) (by decide +kernel)
set_option maxRecDepth 20000 in
theorem gX5_come_X3_start : GoodIn wsX5_come (wsV RX5 121 RX3 yX3_start wsX3_start) := goodIn_app (goodIn_of _ (by decide +kernel)) ggX5_come_X3_start
theorem dX5_come_0 : decode cX5_come 0 = .ok (.iload_n 2, 1) := by decide +kernel
theorem dX5_come_1 : decode cX5_come 1 = .ok (.iload_n 3, 1) := by decide +kernel
theorem dX5_come_2 : decode cX5_come 2 = .ok (.invokestatic 80, 3) := by decide +kernel
theorem dX5_come_5 : decode cX5_come 5 = .ok (.ifCond .ne 13, 3) := by decide +kernel
theorem dX5_come_8 : decode cX5_come 8 = .ok (.new 84, 3) := by decide +kernel
theorem dX5_come_11 : decode cX5_come 11 = .ok (.dup, 1) := by decide +kernel
theorem dX5_come_12 : decode cX5_come 12 = .ok (.ldc 86, 2) := by decide +kernel
theorem dX5_come_14 : decode cX5_come 14 = .ok (.invokespecial 88, 3) := by decide +kernel
theorem dX5_come_17 : decode cX5_come 17 = .ok (.athrow, 1) := by decide +kernel
theorem dX5_come_18 : decode cX5_come 18 = .ok (.iload_n 1, 1) := by decide +kernel
theorem dX5_come_19 : decode cX5_come 19 = .ok (.ifCond .lt 33, 3) := by decide +kernel
theorem dX5_come_22 : decode cX5_come 22 = .ok (.iload_n 1, 1) := by decide +kernel
theorem dX5_come_23 : decode cX5_come 23 = .ok (.iconst 1, 1) := by decide +kernel
theorem dX5_come_24 : decode cX5_come 24 = .ok (.if_icmp .gt 28, 3) := by decide +kernel
theorem dX5_come_27 : decode cX5_come 27 = .ok (.iload 4, 2) := by decide +kernel
theorem dX5_come_29 : decode cX5_come 29 = .ok (.iconst 1, 1) := by decide +kernel
theorem dX5_come_30 : decode cX5_come 30 = .ok (.if_icmp .lt 22, 3) := by decide +kernel
theorem dX5_come_33 : decode cX5_come 33 = .ok (.iload 4, 2) := by decide +kernel
theorem dX5_come_35 : decode cX5_come 35 = .ok (.bipush 9, 2) := by decide +kernel
theorem dX5_come_37 : decode cX5_come 37 = .ok (.if_icmp .gt 15, 3) := by decide +kernel
theorem dX5_come_40 : decode cX5_come 40 = .ok (.iload 5, 2) := by decide +kernel
theorem dX5_come_42 : decode cX5_come 42 = .ok (.iconst 1, 1) := by decide +kernel
theorem dX5_come_43 : decode cX5_come 43 = .ok (.if_icmp .lt 9, 3) := by decide +kernel
theorem dX5_come_46 : decode cX5_come 46 = .ok (.iload 5, 2) := by decide +kernel
theorem dX5_come_48 : decode cX5_come 48 = .ok (.iconst 5, 1) := by decide +kernel
theorem dX5_come_49 : decode cX5_come 49 = .ok (.if_icmp .le 13, 3) := by decide +kernel
theorem dX5_come_52 : decode cX5_come 52 = .ok (.new 55, 3) := by decide +kernel
theorem dX5_come_55 : decode cX5_come 55 = .ok (.dup, 1) := by decide +kernel
theorem dX5_come_56 : decode cX5_come 56 = .ok (.ldc 113, 2) := by decide +kernel
theorem dX5_come_58 : decode cX5_come 58 = .ok (.invokespecial 59, 3) := by decide +kernel
theorem dX5_come_61 : decode cX5_come 61 = .ok (.athrow, 1) := by decide +kernel
theorem dX5_come_62 : decode cX5_come 62 = .ok (.iload_n 2, 1) := by decide +kernel
theorem dX5_come_63 : decode cX5_come 63 = .ok (.iload_n 3, 1) := by decide +kernel
theorem dX5_come_64 : decode cX5_come 64 = .ok (.invokestatic 89, 3) := by decide +kernel
theorem dX5_come_67 : decode cX5_come 67 = .ok (.istore 6, 2) := by decide +kernel
theorem dX5_come_69 : decode cX5_come 69 = .ok (.aload_n 0, 1) := by decide +kernel
theorem dX5_come_70 : decode cX5_come 70 = .ok (.getfield 27, 3) := by decide +kernel
theorem dX5_come_73 : decode cX5_come 73 = .ok (.getfield 77, 3) := by decide +kernel
theorem dX5_come_76 : decode cX5_come 76 = .ok (.bipush 8, 2) := by decide +kernel
theorem dX5_come_78 : decode cX5_come 78 = .ok (.if_icmp .ge 18, 3) := by decide +kernel
theorem dX5_come_81 : decode cX5_come 81 = .ok (.aload_n 0, 1) := by decide +kernel
theorem dX5_come_82 : decode cX5_come 82 = .ok (.getfield 27, 3) := by decide +kernel
theorem dX5_come_85 : decode cX5_come 85 = .ok (.getfield 64, 3) := by decide +kernel
theorem dX5_come_88 : decode cX5_come 88 = .ok (.iload 6, 2) := by decide +kernel
theorem dX5_come_90 : decode cX5_come 90 = .ok (.invokevirtual 97, 3) := by decide +kernel
theorem dX5_come_93 : decode cX5_come 93 = .ok (.ifCond .ne 13, 3) := by decide +kernel
theorem dX5_come_96 : decode cX5_come 96 = .ok (.new 44, 3) := by decide +kernel
theorem dX5_come_99 : decode cX5_come 99 = .ok (.dup, 1) := by decide +kernel
theorem dX5_come_100 : decode cX5_come 100 = .ok (.ldc 115, 2) := by decide +kernel
theorem dX5_come_102 : decode cX5_come 102 = .ok (.invokespecial 48, 3) := by decide +kernel
theorem dX5_come_105 : decode cX5_come 105 = .ok (.athrow, 1) := by decide +kernel
theorem dX5_come_106 : decode cX5_come 106 = .ok (.aload_n 0, 1) := by decide +kernel
theorem dX5_come_107 : decode cX5_come 107 = .ok (.getfield 27, 3) := by decide +kernel
theorem dX5_come_110 : decode cX5_come 110 = .ok (.getfield 77, 3) := by decide +kernel
theorem dX5_come_113 : decode cX5_come 113 = .ok (.istore 7, 2) := by decide +kernel
theorem dX5_come_115 : decode cX5_come 115 = .ok (.aload_n 0, 1) := by decide +kernel
theorem dX5_come_116 : decode cX5_come 116 = .ok (.getfield 27, 3) := by decide +kernel
theorem dX5_come_119 : decode cX5_come 119 = .ok (.getfield 117, 3) := by decide +kernel
theorem dX5_come_122 : decode cX5_come 122 = .ok (.iload 7, 2) := by decide +kernel
theorem dX5_come_124 : decode cX5_come 124 = .ok (.aaload, 1) := by decide +kernel
theorem dX5_come_125 : decode cX5_come 125 = .ok (.iload_n 1, 1) := by decide +kernel
theorem dX5_come_126 : decode cX5_come 126 = .ok (.iload 6, 2) := by decide +kernel
theorem dX5_come_128 : decode cX5_come 128 = .ok (.iload 4, 2) := by decide +kernel
theorem dX5_come_130 : decode cX5_come 130 = .ok (.iload 5, 2) := by decide +kernel
theorem dX5_come_132 : decode cX5_come 132 = .ok (.invokevirtual 121, 3) := by decide +kernel
theorem dX5_come_135 : decode cX5_come 135 = .ok (.aload_n 0, 1) := by decide +kernel
theorem dX5_come_136 : decode cX5_come 136 = .ok (.getfield 27, 3) := by decide +kernel
theorem dX5_come_139 : decode cX5_come 139 = .ok (.dup, 1) := by decide +kernel
theorem dX5_come_140 : decode cX5_come 140 = .ok (.getfield 77, 3) := by decide +kernel
theorem dX5_come_143 : decode cX5_come 143 = .ok (.iconst 1, 1) := by decide +kernel
theorem dX5_come_144 : decode cX5_come 144 = .ok (.iadd, 1) := by decide +kernel
theorem dX5_come_145 : decode cX5_come 145 = .ok (.putfield 77, 3) := by decide +kernel
theorem dX5_come_148 : decode cX5_come 148 = .ok (.iload 7, 2) := by decide +kernel
theorem dX5_come_150 : decode cX5_come 150 = .ok (.ireturn, 1) := by decide +kernel
set_option maxRecDepth 20000 in
theorem ggX5_order_X1_hasTeam : GoodIn wsX5_order wsX1_hasTeam := goodIn_r _ [14, 15, 36, 37, 38, 39] (by decide +kernel) (by decide +kernel)
set_option maxRecDepth 20000 in
theorem gX5_order_X1_hasTeam : GoodIn wsX5_order (wsV RX5 127 RX1 yX1_hasTeam wsX1_hasTeam) := goodIn_app (goodIn_of _ (by decide +kernel)) ggX5_order_X1_hasTeam
set_option maxRecDepth 20000 in
theorem ggX5_order_X3_isGone : GoodIn wsX5_order wsX3_isGone := goodIn_r _ [20, 21, 40, 41, 42, 43, 44, 45, 46, 47, 48, 49, 50, 51, 52, 53, 54, 55] (by decide +kernel) (by decide +kernel)
set_option maxRecDepth 20000 in
theorem gX5_order_X3_isGone : GoodIn wsX5_order (wsV RX5 134 RX3 yX3_isGone wsX3_isGone) := goodIn_app (goodIn_of _ (by decide +kernel)) ggX5_order_X3_isGone
set_option maxRecDepth 20000 in
theorem ggX5_order_X3_addOrder : GoodIn wsX5_order wsX3_addOrder := goodIn_r _ [25, 26, 27, 28, 29, 40, 41, 42, 43, 44, 45, 46, 47, 48, 49, 50, 51, 52, 53, 54, 55] (by decide +kernel) (by decide +kernel)
set_option maxRecDepth 20000 in
theorem gX5_order_X3_addOrder : GoodIn wsX5_order (wsV RX5 143 RX3 yX3_addOrder wsX3_addOrder) := goodIn_app (goodIn_of _ (by decide +kernel)) ggX5_order_X3_addOrder
theorem dX5_order_0 : decode cX5_order 0 = .ok (.aload_n 0, 1) := by decide +kernel
theorem dX5_order_1 : decode cX5_order 1 = .ok (.getfield 27, 3) := by decide +kernel
theorem dX5_order_4 : decode cX5_order 4 = .ok (.iload_n 1, 1) := by decide +kernel
theorem dX5_order_5 : decode cX5_order 5 = .ok (.invokevirtual 127, 3) := by decide +kernel
theorem dX5_order_8 : decode cX5_order 8 = .ok (.ifCond .ne 13, 3) := by decide +kernel
theorem dX5_order_11 : decode cX5_order 11 = .ok (.new 84, 3) := by decide +kernel
theorem dX5_order_14 : decode cX5_order 14 = .ok (.dup, 1) := by decide +kernel
theorem dX5_order_15 : decode cX5_order 15 = .ok (.ldc 130, 2) := by decide +kernel
theorem dX5_order_17 : decode cX5_order 17 = .ok (.invokespecial 88, 3) := by decide +kernel
theorem dX5_order_20 : decode cX5_order 20 = .ok (.athrow, 1) := by decide +kernel
theorem dX5_order_21 : decode cX5_order 21 = .ok (.iload_n 2, 1) := by decide +kernel
theorem dX5_order_22 : decode cX5_order 22 = .ok (.ifCond .lt 31, 3) := by decide +kernel
theorem dX5_order_25 : decode cX5_order 25 = .ok (.iload_n 2, 1) := by decide +kernel
theorem dX5_order_26 : decode cX5_order 26 = .ok (.bipush 7, 2) := by decide +kernel
theorem dX5_order_28 : decode cX5_order 28 = .ok (.if_icmp .ge 25, 3) := by decide +kernel
theorem dX5_order_31 : decode cX5_order 31 = .ok (.iload_n 3, 1) := by decide +kernel
theorem dX5_order_32 : decode cX5_order 32 = .ok (.ifCond .lt 21, 3) := by decide +kernel
theorem dX5_order_35 : decode cX5_order 35 = .ok (.iload_n 3, 1) := by decide +kernel
theorem dX5_order_36 : decode cX5_order 36 = .ok (.iconst 4, 1) := by decide +kernel
theorem dX5_order_37 : decode cX5_order 37 = .ok (.if_icmp .ge 16, 3) := by decide +kernel
theorem dX5_order_40 : decode cX5_order 40 = .ok (.iload 4, 2) := by decide +kernel
theorem dX5_order_42 : decode cX5_order 42 = .ok (.iconst 1, 1) := by decide +kernel
theorem dX5_order_43 : decode cX5_order 43 = .ok (.if_icmp .lt 10, 3) := by decide +kernel
theorem dX5_order_46 : decode cX5_order 46 = .ok (.iload 4, 2) := by decide +kernel
theorem dX5_order_48 : decode cX5_order 48 = .ok (.bipush 20, 2) := by decide +kernel
theorem dX5_order_50 : decode cX5_order 50 = .ok (.if_icmp .le 13, 3) := by decide +kernel
theorem dX5_order_53 : decode cX5_order 53 = .ok (.new 55, 3) := by decide +kernel
theorem dX5_order_56 : decode cX5_order 56 = .ok (.dup, 1) := by decide +kernel
theorem dX5_order_57 : decode cX5_order 57 = .ok (.ldc 132, 2) := by decide +kernel
theorem dX5_order_59 : decode cX5_order 59 = .ok (.invokespecial 59, 3) := by decide +kernel
theorem dX5_order_62 : decode cX5_order 62 = .ok (.athrow, 1) := by decide +kernel
theorem dX5_order_63 : decode cX5_order 63 = .ok (.aload_n 0, 1) := by decide +kernel
theorem dX5_order_64 : decode cX5_order 64 = .ok (.getfield 27, 3) := by decide +kernel
theorem dX5_order_67 : decode cX5_order 67 = .ok (.getfield 117, 3) := by decide +kernel
theorem dX5_order_70 : decode cX5_order 70 = .ok (.iload_n 1, 1) := by decide +kernel
theorem dX5_order_71 : decode cX5_order 71 = .ok (.aaload, 1) := by decide +kernel
theorem dX5_order_72 : decode cX5_order 72 = .ok (.astore 5, 2) := by decide +kernel
theorem dX5_order_74 : decode cX5_order 74 = .ok (.aload 5, 2) := by decide +kernel
theorem dX5_order_76 : decode cX5_order 76 = .ok (.invokevirtual 134, 3) := by decide +kernel
theorem dX5_order_79 : decode cX5_order 79 = .ok (.ifCond .ne 13, 3) := by decide +kernel
theorem dX5_order_82 : decode cX5_order 82 = .ok (.aload 5, 2) := by decide +kernel
theorem dX5_order_84 : decode cX5_order 84 = .ok (.getfield 138, 3) := by decide +kernel
theorem dX5_order_87 : decode cX5_order 87 = .ok (.bipush 12, 2) := by decide +kernel
theorem dX5_order_89 : decode cX5_order 89 = .ok (.if_icmp .lt 13, 3) := by decide +kernel
theorem dX5_order_92 : decode cX5_order 92 = .ok (.new 44, 3) := by decide +kernel
theorem dX5_order_95 : decode cX5_order 95 = .ok (.dup, 1) := by decide +kernel
theorem dX5_order_96 : decode cX5_order 96 = .ok (.ldc 141, 2) := by decide +kernel
theorem dX5_order_98 : decode cX5_order 98 = .ok (.invokespecial 48, 3) := by decide +kernel
theorem dX5_order_101 : decode cX5_order 101 = .ok (.athrow, 1) := by decide +kernel
theorem dX5_order_102 : decode cX5_order 102 = .ok (.aload 5, 2) := by decide +kernel
theorem dX5_order_104 : decode cX5_order 104 = .ok (.iload_n 2, 1) := by decide +kernel
theorem dX5_order_105 : decode cX5_order 105 = .ok (.iload_n 3, 1) := by decide +kernel
theorem dX5_order_106 : decode cX5_order 106 = .ok (.iload 4, 2) := by decide +kernel
theorem dX5_order_108 : decode cX5_order 108 = .ok (.invokevirtual 143, 3) := by decide +kernel
theorem dX5_order_111 : decode cX5_order 111 = .ok (.aload 5, 2) := by decide +kernel
theorem dX5_order_113 : decode cX5_order 113 = .ok (.getfield 138, 3) := by decide +kernel
theorem dX5_order_116 : decode cX5_order 116 = .ok (.ireturn, 1) := by decide +kernel
set_option maxRecDepth 20000 in
theorem ggX5_clear_X1_hasTeam : GoodIn wsX5_clear wsX1_hasTeam := goodIn_r _ [10, 11, 18, 19, 20, 21] (by decide +kernel) (by decide +kernel)
set_option maxRecDepth 20000 in
theorem gX5_clear_X1_hasTeam : GoodIn wsX5_clear (wsV RX5 127 RX1 yX1_hasTeam wsX1_hasTeam) := goodIn_app (goodIn_of _ (by decide +kernel)) ggX5_clear_X1_hasTeam
theorem dX5_clear_0 : decode cX5_clear 0 = .ok (.aload_n 0, 1) := by decide +kernel
theorem dX5_clear_1 : decode cX5_clear 1 = .ok (.getfield 27, 3) := by decide +kernel
theorem dX5_clear_4 : decode cX5_clear 4 = .ok (.iload_n 1, 1) := by decide +kernel
theorem dX5_clear_5 : decode cX5_clear 5 = .ok (.invokevirtual 127, 3) := by decide +kernel
theorem dX5_clear_8 : decode cX5_clear 8 = .ok (.ifCond .ne 13, 3) := by decide +kernel
theorem dX5_clear_11 : decode cX5_clear 11 = .ok (.new 84, 3) := by decide +kernel
theorem dX5_clear_14 : decode cX5_clear 14 = .ok (.dup, 1) := by decide +kernel
theorem dX5_clear_15 : decode cX5_clear 15 = .ok (.ldc 130, 2) := by decide +kernel
theorem dX5_clear_17 : decode cX5_clear 17 = .ok (.invokespecial 88, 3) := by decide +kernel
theorem dX5_clear_20 : decode cX5_clear 20 = .ok (.athrow, 1) := by decide +kernel
theorem dX5_clear_21 : decode cX5_clear 21 = .ok (.aload_n 0, 1) := by decide +kernel
theorem dX5_clear_22 : decode cX5_clear 22 = .ok (.getfield 27, 3) := by decide +kernel
theorem dX5_clear_25 : decode cX5_clear 25 = .ok (.getfield 117, 3) := by decide +kernel
theorem dX5_clear_28 : decode cX5_clear 28 = .ok (.iload_n 1, 1) := by decide +kernel
theorem dX5_clear_29 : decode cX5_clear 29 = .ok (.aaload, 1) := by decide +kernel
theorem dX5_clear_30 : decode cX5_clear 30 = .ok (.getfield 138, 3) := by decide +kernel
theorem dX5_clear_33 : decode cX5_clear 33 = .ok (.istore_n 2, 1) := by decide +kernel
theorem dX5_clear_34 : decode cX5_clear 34 = .ok (.aload_n 0, 1) := by decide +kernel
theorem dX5_clear_35 : decode cX5_clear 35 = .ok (.getfield 27, 3) := by decide +kernel
theorem dX5_clear_38 : decode cX5_clear 38 = .ok (.getfield 117, 3) := by decide +kernel
theorem dX5_clear_41 : decode cX5_clear 41 = .ok (.iload_n 1, 1) := by decide +kernel
theorem dX5_clear_42 : decode cX5_clear 42 = .ok (.aaload, 1) := by decide +kernel
theorem dX5_clear_43 : decode cX5_clear 43 = .ok (.iconst 0, 1) := by decide +kernel
theorem dX5_clear_44 : decode cX5_clear 44 = .ok (.putfield 138, 3) := by decide +kernel
theorem dX5_clear_47 : decode cX5_clear 47 = .ok (.iload_n 2, 1) := by decide +kernel
theorem dX5_clear_48 : decode cX5_clear 48 = .ok (.ireturn, 1) := by decide +kernel
set_option maxRecDepth 20000 in
theorem ggX5_team_X1_hasTeam : GoodIn wsX5_team wsX1_hasTeam := goodIn_r _ [9, 10, 35, 36, 37, 38] (by decide +kernel) (by decide +kernel)
set_option maxRecDepth 20000 in
theorem gX5_team_X1_hasTeam : GoodIn wsX5_team (wsV RX5 127 RX1 yX1_hasTeam wsX1_hasTeam) := goodIn_app (goodIn_of _ (by decide +kernel)) ggX5_team_X1_hasTeam
set_option maxRecDepth 20000 in
theorem ggX5_team_X3_valueOf : GoodIn wsX5_team wsX3_valueOf := goodIn_r _ [15, 16, 17, 18, 19, 20, 21, 22, 23, 24, 25, 26, 14, 27, 28, 39, 40, 41, 42, 43, 44, 45, 46, 47, 48, 49, 50, 51, 52, 53, 54] (by decide +kernel) (by decide +kernel)
set_option maxRecDepth 20000 in
theorem gX5_team_X3_valueOf : GoodIn wsX5_team (wsV RX5 149 RX3 yX3_valueOf wsX3_valueOf) := goodIn_app (goodIn_of _ (by decide +kernel)) ggX5_team_X3_valueOf
theorem dX5_team_0 : decode cX5_team 0 = .ok (.aload_n 0, 1) := by decide +kernel
theorem dX5_team_1 : decode cX5_team 1 = .ok (.getfield 27, 3) := by decide +kernel
theorem dX5_team_4 : decode cX5_team 4 = .ok (.iload_n 1, 1) := by decide +kernel
theorem dX5_team_5 : decode cX5_team 5 = .ok (.invokevirtual 127, 3) := by decide +kernel
theorem dX5_team_8 : decode cX5_team 8 = .ok (.ifCond .eq 13, 3) := by decide +kernel
theorem dX5_team_11 : decode cX5_team 11 = .ok (.iload_n 2, 1) := by decide +kernel
theorem dX5_team_12 : decode cX5_team 12 = .ok (.ifCond .lt 9, 3) := by decide +kernel
theorem dX5_team_15 : decode cX5_team 15 = .ok (.iload_n 2, 1) := by decide +kernel
theorem dX5_team_16 : decode cX5_team 16 = .ok (.bipush 10, 2) := by decide +kernel
theorem dX5_team_18 : decode cX5_team 18 = .ok (.if_icmp .lt 13, 3) := by decide +kernel
theorem dX5_team_21 : decode cX5_team 21 = .ok (.new 84, 3) := by decide +kernel
theorem dX5_team_24 : decode cX5_team 24 = .ok (.dup, 1) := by decide +kernel
theorem dX5_team_25 : decode cX5_team 25 = .ok (.ldc 147, 2) := by decide +kernel
theorem dX5_team_27 : decode cX5_team 27 = .ok (.invokespecial 88, 3) := by decide +kernel
theorem dX5_team_30 : decode cX5_team 30 = .ok (.athrow, 1) := by decide +kernel
theorem dX5_team_31 : decode cX5_team 31 = .ok (.aload_n 0, 1) := by decide +kernel
theorem dX5_team_32 : decode cX5_team 32 = .ok (.getfield 27, 3) := by decide +kernel
theorem dX5_team_35 : decode cX5_team 35 = .ok (.getfield 117, 3) := by decide +kernel
theorem dX5_team_38 : decode cX5_team 38 = .ok (.iload_n 1, 1) := by decide +kernel
theorem dX5_team_39 : decode cX5_team 39 = .ok (.aaload, 1) := by decide +kernel
theorem dX5_team_40 : decode cX5_team 40 = .ok (.iload_n 2, 1) := by decide +kernel
theorem dX5_team_41 : decode cX5_team 41 = .ok (.invokevirtual 149, 3) := by decide +kernel
theorem dX5_team_44 : decode cX5_team 44 = .ok (.ireturn, 1) := by decide +kernel
set_option maxRecDepth 20000 in
theorem ggX5_heard_X1_hasTeam : GoodIn wsX5_heard wsX1_hasTeam := goodIn_r _ [9, 10, 25, 26, 27, 28] (by decide +kernel) (by decide +kernel)
set_option maxRecDepth 20000 in
theorem gX5_heard_X1_hasTeam : GoodIn wsX5_heard (wsV RX5 127 RX1 yX1_hasTeam wsX1_hasTeam) := goodIn_app (goodIn_of _ (by decide +kernel)) ggX5_heard_X1_hasTeam
set_option maxRecDepth 20000 in
theorem ggX5_heard_X3_heardValue : GoodIn wsX5_heard wsX3_heardValue := goodIn_r _ [15, 16, 17, 18, 29, 30, 31, 32, 33, 34, 35, 36, 37, 38, 39, 40, 41, 42, 43, 44] (by decide +kernel) (by decide +kernel)
set_option maxRecDepth 20000 in
theorem gX5_heard_X3_heardValue : GoodIn wsX5_heard (wsV RX5 152 RX3 yX3_heardValue wsX3_heardValue) := goodIn_app (goodIn_of _ (by decide +kernel)) ggX5_heard_X3_heardValue
theorem dX5_heard_0 : decode cX5_heard 0 = .ok (.aload_n 0, 1) := by decide +kernel
theorem dX5_heard_1 : decode cX5_heard 1 = .ok (.getfield 27, 3) := by decide +kernel
theorem dX5_heard_4 : decode cX5_heard 4 = .ok (.iload_n 1, 1) := by decide +kernel
theorem dX5_heard_5 : decode cX5_heard 5 = .ok (.invokevirtual 127, 3) := by decide +kernel
theorem dX5_heard_8 : decode cX5_heard 8 = .ok (.ifCond .eq 12, 3) := by decide +kernel
theorem dX5_heard_11 : decode cX5_heard 11 = .ok (.iload_n 2, 1) := by decide +kernel
theorem dX5_heard_12 : decode cX5_heard 12 = .ok (.ifCond .lt 8, 3) := by decide +kernel
theorem dX5_heard_15 : decode cX5_heard 15 = .ok (.iload_n 2, 1) := by decide +kernel
theorem dX5_heard_16 : decode cX5_heard 16 = .ok (.iconst 3, 1) := by decide +kernel
theorem dX5_heard_17 : decode cX5_heard 17 = .ok (.if_icmp .lt 13, 3) := by decide +kernel
theorem dX5_heard_20 : decode cX5_heard 20 = .ok (.new 84, 3) := by decide +kernel
theorem dX5_heard_23 : decode cX5_heard 23 = .ok (.dup, 1) := by decide +kernel
theorem dX5_heard_24 : decode cX5_heard 24 = .ok (.ldc 147, 2) := by decide +kernel
theorem dX5_heard_26 : decode cX5_heard 26 = .ok (.invokespecial 88, 3) := by decide +kernel
theorem dX5_heard_29 : decode cX5_heard 29 = .ok (.athrow, 1) := by decide +kernel
theorem dX5_heard_30 : decode cX5_heard 30 = .ok (.aload_n 0, 1) := by decide +kernel
theorem dX5_heard_31 : decode cX5_heard 31 = .ok (.getfield 27, 3) := by decide +kernel
theorem dX5_heard_34 : decode cX5_heard 34 = .ok (.getfield 117, 3) := by decide +kernel
theorem dX5_heard_37 : decode cX5_heard 37 = .ok (.iload_n 1, 1) := by decide +kernel
theorem dX5_heard_38 : decode cX5_heard 38 = .ok (.aaload, 1) := by decide +kernel
theorem dX5_heard_39 : decode cX5_heard 39 = .ok (.iload_n 2, 1) := by decide +kernel
theorem dX5_heard_40 : decode cX5_heard 40 = .ok (.invokevirtual 152, 3) := by decide +kernel
theorem dX5_heard_43 : decode cX5_heard 43 = .ok (.ireturn, 1) := by decide +kernel
set_option maxRecDepth 20000 in
theorem ggX5_pass_X1_letHoursGoBy : GoodIn wsX5_pass wsX1_letHoursGoBy := goodIn_r _ [10, 11, 12, 13, 14, 15, 9, 16, 17, 18, 19, 20, 21, 22, 23, 24, 25, 26, 27, 28, 29, 30, 31, 32, 33, 34, 35, 36, 37, 38, 39, 40, 41, 42, 43, 44, 45, 46, 47, 48, 49, 50, 51, 52, 53, 54, 55, 56, 57, 58, 59, 60, 61, 62, 63, 64, 65, 66, 67, 68, 69, 70, 71, 72, 73, 74, 75, 76, 77, 78, 79, 80, 81, 82, 83, 84, 85, 86, 87, 88, 89, 90, 91, 92, 93, 94, 95, 96, 97, 98, 99, 100, 101, 102, 103, 104, 105, 106, 107, 108, 109, 110, 111, 112, 113, 114, 115, 116, 117, 118, 119, 120, 121, 122, 123, 124, 125, 126, 127, 128, 129, 130, 131, 132, 133, 134, 135, 136, 137, 138, 139, 140, 141, 142, 143, 144, 145, 146, 147, 148, 149, 150, 151, 152, 153, 154, 155, 156, 157, 158, 159, 160, 161, 162, 163, 164, 165, 166, 167, 168, 169, 170, 171, 172, 173, 174, 175, 176, 177, 178, 179, 180, 181, 182, 183, 184, 185, 186, 187, 188, 189, 190, 191, 192, 193, 194, 195, 196, 197, 198, 199, 200, 201, 202, 203, 204, 205, 206, 207, 208, 209, 210, 211, 212, 213, 214, 215, 216, 217, 218, 219, 220, 221, 222, 223, 224, 225, 226, 227, 228, 229, 230, 231, 232, 239, 240, 241, 242, 255, 256, 257, 258, 259, 260, 261, 262, 263, 264, 265, 266, 267, 268, 269, 270, 243, 244, 245, 246, 247, 248, 249, 250, 251, 252, 253, 254] (by decide +kernel) (by decide +kernel)
set_option maxRecDepth 20000 in
theorem gX5_pass_X1_letHoursGoBy : GoodIn wsX5_pass (wsV RX5 160 RX1 yX1_letHoursGoBy wsX1_letHoursGoBy) := goodIn_app (goodIn_of _ (by decide +kernel)) ggX5_pass_X1_letHoursGoBy
theorem dX5_pass_0 : decode cX5_pass 0 = .ok (.iload_n 1, 1) := by decide +kernel
theorem dX5_pass_1 : decode cX5_pass 1 = .ok (.iconst 1, 1) := by decide +kernel
theorem dX5_pass_2 : decode cX5_pass 2 = .ok (.if_icmp .lt 10, 3) := by decide +kernel
theorem dX5_pass_5 : decode cX5_pass 5 = .ok (.iload_n 1, 1) := by decide +kernel
theorem dX5_pass_6 : decode cX5_pass 6 = .ok (.sipush 200, 3) := by decide +kernel
theorem dX5_pass_9 : decode cX5_pass 9 = .ok (.if_icmp .le 13, 3) := by decide +kernel
theorem dX5_pass_12 : decode cX5_pass 12 = .ok (.new 55, 3) := by decide +kernel
theorem dX5_pass_15 : decode cX5_pass 15 = .ok (.dup, 1) := by decide +kernel
theorem dX5_pass_16 : decode cX5_pass 16 = .ok (.ldc 155, 2) := by decide +kernel
theorem dX5_pass_18 : decode cX5_pass 18 = .ok (.invokespecial 59, 3) := by decide +kernel
theorem dX5_pass_21 : decode cX5_pass 21 = .ok (.athrow, 1) := by decide +kernel
theorem dX5_pass_22 : decode cX5_pass 22 = .ok (.aload_n 0, 1) := by decide +kernel
theorem dX5_pass_23 : decode cX5_pass 23 = .ok (.getfield 27, 3) := by decide +kernel
theorem dX5_pass_26 : decode cX5_pass 26 = .ok (.getfield 64, 3) := by decide +kernel
theorem dX5_pass_29 : decode cX5_pass 29 = .ok (.getfield 157, 3) := by decide +kernel
theorem dX5_pass_32 : decode cX5_pass 32 = .ok (.istore_n 2, 1) := by decide +kernel
theorem dX5_pass_33 : decode cX5_pass 33 = .ok (.aload_n 0, 1) := by decide +kernel
theorem dX5_pass_34 : decode cX5_pass 34 = .ok (.getfield 27, 3) := by decide +kernel
theorem dX5_pass_37 : decode cX5_pass 37 = .ok (.iload_n 1, 1) := by decide +kernel
theorem dX5_pass_38 : decode cX5_pass 38 = .ok (.invokevirtual 160, 3) := by decide +kernel
theorem dX5_pass_41 : decode cX5_pass 41 = .ok (.aload_n 0, 1) := by decide +kernel
theorem dX5_pass_42 : decode cX5_pass 42 = .ok (.getfield 27, 3) := by decide +kernel
theorem dX5_pass_45 : decode cX5_pass 45 = .ok (.getfield 64, 3) := by decide +kernel
theorem dX5_pass_48 : decode cX5_pass 48 = .ok (.getfield 157, 3) := by decide +kernel
theorem dX5_pass_51 : decode cX5_pass 51 = .ok (.iload_n 2, 1) := by decide +kernel
theorem dX5_pass_52 : decode cX5_pass 52 = .ok (.isub, 1) := by decide +kernel
theorem dX5_pass_53 : decode cX5_pass 53 = .ok (.ireturn, 1) := by decide +kernel
set_option maxRecDepth 20000 in
theorem ggX5_count_X5_countOf : GoodIn wsX5_count wsX5_countOf := goodIn_r _ [7, 8, 9, 10, 11, 12, 13, 14, 15, 16, 17, 18, 19, 20, 21, 22, 23, 24, 25, 26, 27, 28, 29, 30, 31, 32, 33, 34, 35, 36, 37, 38, 39, 40, 41, 42, 43, 44, 45, 46, 47, 48, 49, 50, 51, 52, 53, 54, 55, 56, 57, 58, 59, 60, 61, 62, 63, 64, 65, 66, 67, 68, 69, 70, 71, 72, 73, 74, 75, 76, 77, 78, 79, 80, 81, 82, 83, 84, 85, 86, 87, 88, 89, 90, 91, 92, 93, 94] (by decide +kernel) (by decide +kernel)
set_option maxRecDepth 20000 in
theorem gX5_count_X5_countOf : GoodIn wsX5_count (wsV RX5 165 RX5 yX5_countOf wsX5_countOf) := goodIn_app (goodIn_of _ (by decide +kernel)) ggX5_count_X5_countOf
theorem dX5_count_0 : decode cX5_count 0 = .ok (.iload_n 1, 1) := by decide +kernel
theorem dX5_count_1 : decode cX5_count 1 = .ok (.ifCond .lt 9, 3) := by decide +kernel
theorem dX5_count_4 : decode cX5_count 4 = .ok (.iload_n 1, 1) := by decide +kernel
theorem dX5_count_5 : decode cX5_count 5 = .ok (.bipush 12, 2) := by decide +kernel
theorem dX5_count_7 : decode cX5_count 7 = .ok (.if_icmp .lt 13, 3) := by decide +kernel
theorem dX5_count_10 : decode cX5_count 10 = .ok (.new 84, 3) := by decide +kernel
theorem dX5_count_13 : decode cX5_count 13 = .ok (.dup, 1) := by decide +kernel
theorem dX5_count_14 : decode cX5_count 14 = .ok (.ldc 163, 2) := by decide +kernel
theorem dX5_count_16 : decode cX5_count 16 = .ok (.invokespecial 88, 3) := by decide +kernel
theorem dX5_count_19 : decode cX5_count 19 = .ok (.athrow, 1) := by decide +kernel
theorem dX5_count_20 : decode cX5_count 20 = .ok (.aload_n 0, 1) := by decide +kernel
theorem dX5_count_21 : decode cX5_count 21 = .ok (.iload_n 1, 1) := by decide +kernel
theorem dX5_count_22 : decode cX5_count 22 = .ok (.invokevirtual 165, 3) := by decide +kernel
theorem dX5_count_25 : decode cX5_count 25 = .ok (.ireturn, 1) := by decide +kernel
set_option maxRecDepth 20000 in
theorem ggX5_way_X5_isInside : GoodIn wsX5_way wsX5_isInside := goodIn_r _ [10] (by decide +kernel) (by decide +kernel)
set_option maxRecDepth 20000 in
theorem gX5_way_X5_isInside : GoodIn wsX5_way (va_wsS RX5 80 yX5_isInside wsX5_isInside) := goodIn_app (goodIn_of _ (by decide +kernel)) ggX5_way_X5_isInside
set_option maxRecDepth 20000 in
theorem ggX5_way_X5_cellAt : GoodIn wsX5_way wsX5_cellAt := goodIn_r _ [13] (by decide +kernel) (by decide +kernel)
set_option maxRecDepth 20000 in
theorem gX5_way_X5_cellAt : GoodIn wsX5_way (va_wsS RX5 89 yX5_cellAt wsX5_cellAt) := goodIn_app (goodIn_of _ (by decide +kernel)) ggX5_way_X5_cellAt
set_option maxRecDepth 20000 in
theorem ggX5_way_X0_isTunnel : GoodIn wsX5_way wsX0_isTunnel := goodIn_r _ [18, 19, 63, 64, 65, 66, 67, 68, 69, 70, 71, 72, 73, 74] (by decide +kernel) (by decide +kernel)
set_option maxRecDepth 20000 in
theorem gX5_way_X0_isTunnel : GoodIn wsX5_way (wsV RX5 97 RX0 yX0_isTunnel wsX0_isTunnel) := goodIn_app (goodIn_of _ (by decide +kernel)) ggX5_way_X0_isTunnel
set_option maxRecDepth 20000 in
theorem ggX5_way_X4_searchFrom : GoodIn wsX5_way wsX4_searchFrom := goodIn_r _ [24, 25, 26, 27, 28, 29, 23, 30, 31, 32, 33, 34, 35, 9, 36, 37, 38, 39, 40, 15, 16, 17, 18, 19, 41, 42, 43, 44, 45, 46, 47, 48, 49, 50, 61, 62, 63, 64, 65, 66, 67, 68, 69, 70, 71, 72, 73, 74] (by decide +kernel) (by decide +kernel)
set_option maxRecDepth 20000 in
theorem gX5_way_X4_searchFrom : GoodIn wsX5_way (wsV RX5 168 RX4 yX4_searchFrom wsX4_searchFrom) := goodIn_app (goodIn_of _ (by decide +kernel)) ggX5_way_X4_searchFrom
theorem dX5_way_0 : decode cX5_way 0 = .ok (.iload_n 1, 1) := by decide +kernel
theorem dX5_way_1 : decode cX5_way 1 = .ok (.iload_n 2, 1) := by decide +kernel
theorem dX5_way_2 : decode cX5_way 2 = .ok (.invokestatic 80, 3) := by decide +kernel
theorem dX5_way_5 : decode cX5_way 5 = .ok (.ifCond .eq 12, 3) := by decide +kernel
theorem dX5_way_8 : decode cX5_way 8 = .ok (.iload_n 3, 1) := by decide +kernel
theorem dX5_way_9 : decode cX5_way 9 = .ok (.iload 4, 2) := by decide +kernel
theorem dX5_way_11 : decode cX5_way 11 = .ok (.invokestatic 80, 3) := by decide +kernel
theorem dX5_way_14 : decode cX5_way 14 = .ok (.ifCond .ne 13, 3) := by decide +kernel
theorem dX5_way_17 : decode cX5_way 17 = .ok (.new 84, 3) := by decide +kernel
theorem dX5_way_20 : decode cX5_way 20 = .ok (.dup, 1) := by decide +kernel
theorem dX5_way_21 : decode cX5_way 21 = .ok (.ldc 86, 2) := by decide +kernel
theorem dX5_way_23 : decode cX5_way 23 = .ok (.invokespecial 88, 3) := by decide +kernel
theorem dX5_way_26 : decode cX5_way 26 = .ok (.athrow, 1) := by decide +kernel
theorem dX5_way_27 : decode cX5_way 27 = .ok (.iload_n 1, 1) := by decide +kernel
theorem dX5_way_28 : decode cX5_way 28 = .ok (.iload_n 2, 1) := by decide +kernel
theorem dX5_way_29 : decode cX5_way 29 = .ok (.invokestatic 89, 3) := by decide +kernel
theorem dX5_way_32 : decode cX5_way 32 = .ok (.istore 5, 2) := by decide +kernel
theorem dX5_way_34 : decode cX5_way 34 = .ok (.iload_n 3, 1) := by decide +kernel
theorem dX5_way_35 : decode cX5_way 35 = .ok (.iload 4, 2) := by decide +kernel
theorem dX5_way_37 : decode cX5_way 37 = .ok (.invokestatic 89, 3) := by decide +kernel
theorem dX5_way_40 : decode cX5_way 40 = .ok (.istore 6, 2) := by decide +kernel
theorem dX5_way_42 : decode cX5_way 42 = .ok (.aload_n 0, 1) := by decide +kernel
theorem dX5_way_43 : decode cX5_way 43 = .ok (.getfield 27, 3) := by decide +kernel
theorem dX5_way_46 : decode cX5_way 46 = .ok (.getfield 64, 3) := by decide +kernel
theorem dX5_way_49 : decode cX5_way 49 = .ok (.iload 5, 2) := by decide +kernel
theorem dX5_way_51 : decode cX5_way 51 = .ok (.invokevirtual 97, 3) := by decide +kernel
theorem dX5_way_54 : decode cX5_way 54 = .ok (.ifCond .eq 18, 3) := by decide +kernel
theorem dX5_way_57 : decode cX5_way 57 = .ok (.aload_n 0, 1) := by decide +kernel
theorem dX5_way_58 : decode cX5_way 58 = .ok (.getfield 27, 3) := by decide +kernel
theorem dX5_way_61 : decode cX5_way 61 = .ok (.getfield 64, 3) := by decide +kernel
theorem dX5_way_64 : decode cX5_way 64 = .ok (.iload 6, 2) := by decide +kernel
theorem dX5_way_66 : decode cX5_way 66 = .ok (.invokevirtual 97, 3) := by decide +kernel
theorem dX5_way_69 : decode cX5_way 69 = .ok (.ifCond .ne 5, 3) := by decide +kernel
theorem dX5_way_72 : decode cX5_way 72 = .ok (.iconst (-1), 1) := by decide +kernel
theorem dX5_way_73 : decode cX5_way 73 = .ok (.ireturn, 1) := by decide +kernel
theorem dX5_way_74 : decode cX5_way 74 = .ok (.aload_n 0, 1) := by decide +kernel
theorem dX5_way_75 : decode cX5_way 75 = .ok (.getfield 37, 3) := by decide +kernel
theorem dX5_way_78 : decode cX5_way 78 = .ok (.aload_n 0, 1) := by decide +kernel
theorem dX5_way_79 : decode cX5_way 79 = .ok (.getfield 27, 3) := by decide +kernel
theorem dX5_way_82 : decode cX5_way 82 = .ok (.getfield 64, 3) := by decide +kernel
theorem dX5_way_85 : decode cX5_way 85 = .ok (.iload 5, 2) := by decide +kernel
theorem dX5_way_87 : decode cX5_way 87 = .ok (.iconst 0, 1) := by decide +kernel
theorem dX5_way_88 : decode cX5_way 88 = .ok (.invokevirtual 168, 3) := by decide +kernel
theorem dX5_way_91 : decode cX5_way 91 = .ok (.aload_n 0, 1) := by decide +kernel
theorem dX5_way_92 : decode cX5_way 92 = .ok (.getfield 37, 3) := by decide +kernel
theorem dX5_way_95 : decode cX5_way 95 = .ok (.getfield 172, 3) := by decide +kernel
theorem dX5_way_98 : decode cX5_way 98 = .ok (.iload 6, 2) := by decide +kernel
theorem dX5_way_100 : decode cX5_way 100 = .ok (.iaload, 1) := by decide +kernel
theorem dX5_way_101 : decode cX5_way 101 = .ok (.ireturn, 1) := by decide +kernel
set_option maxRecDepth 20000 in
theorem ggX5_reach_X1_hasTeam : GoodIn wsX5_reach wsX1_hasTeam := goodIn_r _ [14, 15, 65, 66, 67, 68] (by decide +kernel) (by decide +kernel)
set_option maxRecDepth 20000 in
theorem gX5_reach_X1_hasTeam : GoodIn wsX5_reach (wsV RX5 127 RX1 yX1_hasTeam wsX1_hasTeam) := goodIn_app (goodIn_of _ (by decide +kernel)) ggX5_reach_X1_hasTeam
set_option maxRecDepth 20000 in
theorem ggX5_reach_X5_isInside : GoodIn wsX5_reach wsX5_isInside := goodIn_r _ [19] (by decide +kernel) (by decide +kernel)
set_option maxRecDepth 20000 in
theorem gX5_reach_X5_isInside : GoodIn wsX5_reach (va_wsS RX5 80 yX5_isInside wsX5_isInside) := goodIn_app (goodIn_of _ (by decide +kernel)) ggX5_reach_X5_isInside
set_option maxRecDepth 20000 in
theorem ggX5_reach_X4_searchFrom : GoodIn wsX5_reach wsX4_searchFrom := goodIn_r _ [24, 25, 26, 27, 28, 29, 23, 30, 31, 32, 33, 34, 35, 18, 36, 37, 38, 39, 40, 41, 42, 43, 44, 45, 46, 47, 48, 49, 50, 51, 52, 53, 54, 55, 85, 86, 87, 88, 89, 90, 91, 92, 93, 94, 95, 96, 97, 98] (by decide +kernel) (by decide +kernel)
set_option maxRecDepth 20000 in
theorem gX5_reach_X4_searchFrom : GoodIn wsX5_reach (wsV RX5 168 RX4 yX4_searchFrom wsX4_searchFrom) := goodIn_app (goodIn_of _ (by decide +kernel)) ggX5_reach_X4_searchFrom
set_option maxRecDepth 20000 in
theorem ggX5_reach_X5_cellAt : GoodIn wsX5_reach wsX5_cellAt := goodIn_r _ [58] (by decide +kernel) (by decide +kernel)
set_option maxRecDepth 20000 in
theorem gX5_reach_X5_cellAt : GoodIn wsX5_reach (va_wsS RX5 89 yX5_cellAt wsX5_cellAt) := goodIn_app (goodIn_of _ (by decide +kernel)) ggX5_reach_X5_cellAt
theorem dX5_reach_0 : decode cX5_reach 0 = .ok (.aload_n 0, 1) := by decide +kernel
theorem dX5_reach_1 : decode cX5_reach 1 = .ok (.getfield 27, 3) := by decide +kernel
theorem dX5_reach_4 : decode cX5_reach 4 = .ok (.iload_n 1, 1) := by decide +kernel
theorem dX5_reach_5 : decode cX5_reach 5 = .ok (.invokevirtual 127, 3) := by decide +kernel
theorem dX5_reach_8 : decode cX5_reach 8 = .ok (.ifCond .eq 11, 3) := by decide +kernel
theorem dX5_reach_11 : decode cX5_reach 11 = .ok (.iload_n 2, 1) := by decide +kernel
theorem dX5_reach_12 : decode cX5_reach 12 = .ok (.iload_n 3, 1) := by decide +kernel
theorem dX5_reach_13 : decode cX5_reach 13 = .ok (.invokestatic 80, 3) := by decide +kernel
theorem dX5_reach_16 : decode cX5_reach 16 = .ok (.ifCond .ne 13, 3) := by decide +kernel
theorem dX5_reach_19 : decode cX5_reach 19 = .ok (.new 84, 3) := by decide +kernel
theorem dX5_reach_22 : decode cX5_reach 22 = .ok (.dup, 1) := by decide +kernel
theorem dX5_reach_23 : decode cX5_reach 23 = .ok (.ldc 175, 2) := by decide +kernel
theorem dX5_reach_25 : decode cX5_reach 25 = .ok (.invokespecial 88, 3) := by decide +kernel
theorem dX5_reach_28 : decode cX5_reach 28 = .ok (.athrow, 1) := by decide +kernel
theorem dX5_reach_29 : decode cX5_reach 29 = .ok (.aload_n 0, 1) := by decide +kernel
theorem dX5_reach_30 : decode cX5_reach 30 = .ok (.getfield 27, 3) := by decide +kernel
theorem dX5_reach_33 : decode cX5_reach 33 = .ok (.getfield 117, 3) := by decide +kernel
theorem dX5_reach_36 : decode cX5_reach 36 = .ok (.iload_n 1, 1) := by decide +kernel
theorem dX5_reach_37 : decode cX5_reach 37 = .ok (.aaload, 1) := by decide +kernel
theorem dX5_reach_38 : decode cX5_reach 38 = .ok (.astore 4, 2) := by decide +kernel
theorem dX5_reach_40 : decode cX5_reach 40 = .ok (.aload_n 0, 1) := by decide +kernel
theorem dX5_reach_41 : decode cX5_reach 41 = .ok (.getfield 37, 3) := by decide +kernel
theorem dX5_reach_44 : decode cX5_reach 44 = .ok (.aload_n 0, 1) := by decide +kernel
theorem dX5_reach_45 : decode cX5_reach 45 = .ok (.getfield 27, 3) := by decide +kernel
theorem dX5_reach_48 : decode cX5_reach 48 = .ok (.getfield 64, 3) := by decide +kernel
theorem dX5_reach_51 : decode cX5_reach 51 = .ok (.aload 4, 2) := by decide +kernel
theorem dX5_reach_53 : decode cX5_reach 53 = .ok (.getfield 177, 3) := by decide +kernel
theorem dX5_reach_56 : decode cX5_reach 56 = .ok (.aload 4, 2) := by decide +kernel
theorem dX5_reach_58 : decode cX5_reach 58 = .ok (.getfield 180, 3) := by decide +kernel
theorem dX5_reach_61 : decode cX5_reach 61 = .ok (.invokevirtual 168, 3) := by decide +kernel
theorem dX5_reach_64 : decode cX5_reach 64 = .ok (.aload_n 0, 1) := by decide +kernel
theorem dX5_reach_65 : decode cX5_reach 65 = .ok (.getfield 37, 3) := by decide +kernel
theorem dX5_reach_68 : decode cX5_reach 68 = .ok (.getfield 172, 3) := by decide +kernel
theorem dX5_reach_71 : decode cX5_reach 71 = .ok (.iload_n 2, 1) := by decide +kernel
theorem dX5_reach_72 : decode cX5_reach 72 = .ok (.iload_n 3, 1) := by decide +kernel
theorem dX5_reach_73 : decode cX5_reach 73 = .ok (.invokestatic 89, 3) := by decide +kernel
theorem dX5_reach_76 : decode cX5_reach 76 = .ok (.iaload, 1) := by decide +kernel
theorem dX5_reach_77 : decode cX5_reach 77 = .ok (.ireturn, 1) := by decide +kernel
set_option maxRecDepth 20000 in
theorem ggX5_target_X1_hasTeam : GoodIn wsX5_target wsX1_hasTeam := goodIn_r _ [13, 14, 63, 64, 65, 66] (by decide +kernel) (by decide +kernel)
set_option maxRecDepth 20000 in
theorem gX5_target_X1_hasTeam : GoodIn wsX5_target (wsV RX5 127 RX1 yX1_hasTeam wsX1_hasTeam) := goodIn_app (goodIn_of _ (by decide +kernel)) ggX5_target_X1_hasTeam
set_option maxRecDepth 20000 in
theorem ggX5_target_X4_searchFrom : GoodIn wsX5_target wsX4_searchFrom := goodIn_r _ [19, 20, 21, 22, 23, 24, 18, 25, 26, 27, 28, 29, 30, 31, 32, 33, 34, 35, 36, 37, 38, 39, 40, 41, 42, 43, 44, 45, 46, 47, 48, 49, 50, 51, 83, 84, 85, 86, 87, 88, 89, 90, 91, 92, 93, 94, 95, 96] (by decide +kernel) (by decide +kernel)
set_option maxRecDepth 20000 in
theorem gX5_target_X4_searchFrom : GoodIn wsX5_target (wsV RX5 168 RX4 yX4_searchFrom wsX4_searchFrom) := goodIn_app (goodIn_of _ (by decide +kernel)) ggX5_target_X4_searchFrom
set_option maxRecDepth 20000 in
theorem ggX5_target_X4_nearestWall : GoodIn wsX5_target wsX4_nearestWall := goodIn_r _ [55, 56, 20, 85, 86, 87, 88, 89, 90, 91, 92, 93, 94, 95, 96, 83, 84] (by decide +kernel) (by decide +kernel)
set_option maxRecDepth 20000 in
theorem gX5_target_X4_nearestWall : GoodIn wsX5_target (wsV RX5 183 RX4 yX4_nearestWall wsX4_nearestWall) := goodIn_app (goodIn_of _ (by decide +kernel)) ggX5_target_X4_nearestWall
theorem dX5_target_0 : decode cX5_target 0 = .ok (.aload_n 0, 1) := by decide +kernel
theorem dX5_target_1 : decode cX5_target 1 = .ok (.getfield 27, 3) := by decide +kernel
theorem dX5_target_4 : decode cX5_target 4 = .ok (.iload_n 1, 1) := by decide +kernel
theorem dX5_target_5 : decode cX5_target 5 = .ok (.invokevirtual 127, 3) := by decide +kernel
theorem dX5_target_8 : decode cX5_target 8 = .ok (.ifCond .ne 13, 3) := by decide +kernel
theorem dX5_target_11 : decode cX5_target 11 = .ok (.new 84, 3) := by decide +kernel
theorem dX5_target_14 : decode cX5_target 14 = .ok (.dup, 1) := by decide +kernel
theorem dX5_target_15 : decode cX5_target 15 = .ok (.ldc 130, 2) := by decide +kernel
theorem dX5_target_17 : decode cX5_target 17 = .ok (.invokespecial 88, 3) := by decide +kernel
theorem dX5_target_20 : decode cX5_target 20 = .ok (.athrow, 1) := by decide +kernel
theorem dX5_target_21 : decode cX5_target 21 = .ok (.aload_n 0, 1) := by decide +kernel
theorem dX5_target_22 : decode cX5_target 22 = .ok (.getfield 27, 3) := by decide +kernel
theorem dX5_target_25 : decode cX5_target 25 = .ok (.getfield 117, 3) := by decide +kernel
theorem dX5_target_28 : decode cX5_target 28 = .ok (.iload_n 1, 1) := by decide +kernel
theorem dX5_target_29 : decode cX5_target 29 = .ok (.aaload, 1) := by decide +kernel
theorem dX5_target_30 : decode cX5_target 30 = .ok (.astore_n 2, 1) := by decide +kernel
theorem dX5_target_31 : decode cX5_target 31 = .ok (.aload_n 0, 1) := by decide +kernel
theorem dX5_target_32 : decode cX5_target 32 = .ok (.getfield 37, 3) := by decide +kernel
theorem dX5_target_35 : decode cX5_target 35 = .ok (.aload_n 0, 1) := by decide +kernel
theorem dX5_target_36 : decode cX5_target 36 = .ok (.getfield 27, 3) := by decide +kernel
theorem dX5_target_39 : decode cX5_target 39 = .ok (.getfield 64, 3) := by decide +kernel
theorem dX5_target_42 : decode cX5_target 42 = .ok (.aload_n 2, 1) := by decide +kernel
theorem dX5_target_43 : decode cX5_target 43 = .ok (.getfield 177, 3) := by decide +kernel
theorem dX5_target_46 : decode cX5_target 46 = .ok (.aload_n 2, 1) := by decide +kernel
theorem dX5_target_47 : decode cX5_target 47 = .ok (.getfield 180, 3) := by decide +kernel
theorem dX5_target_50 : decode cX5_target 50 = .ok (.invokevirtual 168, 3) := by decide +kernel
theorem dX5_target_53 : decode cX5_target 53 = .ok (.aload_n 0, 1) := by decide +kernel
theorem dX5_target_54 : decode cX5_target 54 = .ok (.getfield 37, 3) := by decide +kernel
theorem dX5_target_57 : decode cX5_target 57 = .ok (.aload_n 0, 1) := by decide +kernel
theorem dX5_target_58 : decode cX5_target 58 = .ok (.getfield 27, 3) := by decide +kernel
theorem dX5_target_61 : decode cX5_target 61 = .ok (.getfield 64, 3) := by decide +kernel
theorem dX5_target_64 : decode cX5_target 64 = .ok (.invokevirtual 183, 3) := by decide +kernel
theorem dX5_target_67 : decode cX5_target 67 = .ok (.ireturn, 1) := by decide +kernel
set_option maxRecDepth 20000 in
theorem ggX5_foresee_X1_copyFrom : GoodIn wsX5_foresee wsX1_copyFrom := goodIn_r _ [14, 15, 16, 17, 18, 19, 20, 21, 22, 23, 24, 25, 26, 27, 28, 29, 30, 31, 32, 33, 34, 35, 36, 37, 38, 39, 40, 41, 42, 43, 44, 45, 46, 47, 48, 49, 50, 51, 52, 53, 54, 55, 56, 57, 58, 59, 262, 263, 264, 265, 266, 267, 268, 269, 270, 271, 272, 273, 274, 275, 276, 277, 278, 279, 280, 281, 282, 283, 284, 285, 286, 287, 288, 289, 290, 291, 292, 293] (by decide +kernel) (by decide +kernel)
set_option maxRecDepth 20000 in
theorem gX5_foresee_X1_copyFrom : GoodIn wsX5_foresee (wsV RX5 189 RX1 yX1_copyFrom wsX1_copyFrom) := goodIn_app (goodIn_of _ (by decide +kernel)) ggX5_foresee_X1_copyFrom
set_option maxRecDepth 20000 in
theorem ggX5_foresee_X1_letHoursGoBy : GoodIn wsX5_foresee wsX1_letHoursGoBy := goodIn_r _ [63, 15, 17, 64, 65, 66, 13, 67, 16, 18, 68, 69, 70, 71, 72, 73, 74, 75, 41, 76, 48, 49, 50, 51, 77, 78, 79, 80, 45, 81, 82, 83, 84, 85, 86, 87, 88, 89, 44, 90, 91, 92, 93, 94, 95, 96, 97, 98, 99, 100, 101, 102, 103, 104, 105, 106, 107, 108, 109, 110, 111, 112, 22, 113, 30, 114, 115, 116, 117, 118, 119, 120, 121, 122, 55, 56, 123, 124, 125, 126, 127, 128, 129, 130, 131, 132, 58, 133, 134, 135, 136, 24, 137, 138, 139, 140, 47, 141, 142, 143, 144, 59, 145, 146, 147, 148, 34, 149, 150, 151, 152, 153, 154, 155, 156, 31, 32, 33, 35, 157, 158, 159, 160, 161, 162, 163, 164, 165, 166, 167, 168, 169, 170, 171, 172, 173, 174, 175, 176, 177, 178, 179, 180, 181, 182, 183, 184, 185, 186, 187, 188, 189, 190, 191, 192, 193, 194, 195, 196, 197, 198, 199, 200, 201, 202, 203, 204, 205, 206, 207, 208, 209, 210, 52, 53, 54, 211, 212, 213, 214, 215, 25, 26, 27, 28, 216, 217, 218, 219, 220, 221, 222, 223, 224, 225, 226, 227, 228, 229, 230, 231, 232, 233, 234, 235, 236, 237, 238, 239, 240, 241, 36, 29, 37, 242, 243, 244, 245, 246, 247, 248, 249, 250, 251, 262, 263, 264, 265, 278, 279, 280, 281, 282, 283, 284, 285, 286, 287, 288, 289, 290, 291, 292, 293, 266, 267, 268, 269, 270, 271, 272, 273, 274, 275, 276, 277] (by decide +kernel) (by decide +kernel)
set_option maxRecDepth 20000 in
theorem gX5_foresee_X1_letHoursGoBy : GoodIn wsX5_foresee (wsV RX5 160 RX1 yX1_letHoursGoBy wsX1_letHoursGoBy) := goodIn_app (goodIn_of _ (by decide +kernel)) ggX5_foresee_X1_letHoursGoBy
set_option maxRecDepth 20000 in
theorem ggX5_foresee_X1_teamsLeft : GoodIn wsX5_foresee wsX1_teamsLeft := goodIn_r _ [255, 16, 18, 85, 77, 78, 79, 41, 80, 45, 262, 263, 264, 265, 278, 279, 280, 281, 282, 283, 284, 285, 286, 287, 288, 289, 290, 291, 292, 293] (by decide +kernel) (by decide +kernel)
set_option maxRecDepth 20000 in
theorem gX5_foresee_X1_teamsLeft : GoodIn wsX5_foresee (wsV RX5 193 RX1 yX1_teamsLeft wsX1_teamsLeft) := goodIn_app (goodIn_of _ (by decide +kernel)) ggX5_foresee_X1_teamsLeft
theorem dX5_foresee_0 : decode cX5_foresee 0 = .ok (.iload_n 1, 1) := by decide +kernel
theorem dX5_foresee_1 : decode cX5_foresee 1 = .ok (.iconst 1, 1) := by decide +kernel
theorem dX5_foresee_2 : decode cX5_foresee 2 = .ok (.if_icmp .lt 10, 3) := by decide +kernel
theorem dX5_foresee_5 : decode cX5_foresee 5 = .ok (.iload_n 1, 1) := by decide +kernel
theorem dX5_foresee_6 : decode cX5_foresee 6 = .ok (.sipush 150, 3) := by decide +kernel
theorem dX5_foresee_9 : decode cX5_foresee 9 = .ok (.if_icmp .le 13, 3) := by decide +kernel
theorem dX5_foresee_12 : decode cX5_foresee 12 = .ok (.new 55, 3) := by decide +kernel
theorem dX5_foresee_15 : decode cX5_foresee 15 = .ok (.dup, 1) := by decide +kernel
theorem dX5_foresee_16 : decode cX5_foresee 16 = .ok (.ldc 155, 2) := by decide +kernel
theorem dX5_foresee_18 : decode cX5_foresee 18 = .ok (.invokespecial 59, 3) := by decide +kernel
theorem dX5_foresee_21 : decode cX5_foresee 21 = .ok (.athrow, 1) := by decide +kernel
theorem dX5_foresee_22 : decode cX5_foresee 22 = .ok (.iload_n 2, 1) := by decide +kernel
theorem dX5_foresee_23 : decode cX5_foresee 23 = .ok (.ifCond .lt 8, 3) := by decide +kernel
theorem dX5_foresee_26 : decode cX5_foresee 26 = .ok (.iload_n 2, 1) := by decide +kernel
theorem dX5_foresee_27 : decode cX5_foresee 27 = .ok (.iconst 4, 1) := by decide +kernel
theorem dX5_foresee_28 : decode cX5_foresee 28 = .ok (.if_icmp .lt 13, 3) := by decide +kernel
theorem dX5_foresee_31 : decode cX5_foresee 31 = .ok (.new 84, 3) := by decide +kernel
theorem dX5_foresee_34 : decode cX5_foresee 34 = .ok (.dup, 1) := by decide +kernel
theorem dX5_foresee_35 : decode cX5_foresee 35 = .ok (.ldc 187, 2) := by decide +kernel
theorem dX5_foresee_37 : decode cX5_foresee 37 = .ok (.invokespecial 88, 3) := by decide +kernel
theorem dX5_foresee_40 : decode cX5_foresee 40 = .ok (.athrow, 1) := by decide +kernel
theorem dX5_foresee_41 : decode cX5_foresee 41 = .ok (.aload_n 0, 1) := by decide +kernel
theorem dX5_foresee_42 : decode cX5_foresee 42 = .ok (.getfield 31, 3) := by decide +kernel
theorem dX5_foresee_45 : decode cX5_foresee 45 = .ok (.aload_n 0, 1) := by decide +kernel
theorem dX5_foresee_46 : decode cX5_foresee 46 = .ok (.getfield 27, 3) := by decide +kernel
theorem dX5_foresee_49 : decode cX5_foresee 49 = .ok (.invokevirtual 189, 3) := by decide +kernel
theorem dX5_foresee_52 : decode cX5_foresee 52 = .ok (.aload_n 0, 1) := by decide +kernel
theorem dX5_foresee_53 : decode cX5_foresee 53 = .ok (.getfield 31, 3) := by decide +kernel
theorem dX5_foresee_56 : decode cX5_foresee 56 = .ok (.iload_n 1, 1) := by decide +kernel
theorem dX5_foresee_57 : decode cX5_foresee 57 = .ok (.invokevirtual 160, 3) := by decide +kernel
theorem dX5_foresee_60 : decode cX5_foresee 60 = .ok (.iload_n 2, 1) := by decide +kernel
theorem dX5_foresee_61 : decode cX5_foresee 61 = .ok (.tableswitch 67 0 2 #[27, 49, 58], 27) := by decide +kernel
theorem dX5_foresee_88 : decode cX5_foresee 88 = .ok (.aload_n 0, 1) := by decide +kernel
theorem dX5_foresee_89 : decode cX5_foresee 89 = .ok (.getfield 31, 3) := by decide +kernel
theorem dX5_foresee_92 : decode cX5_foresee 92 = .ok (.getfield 64, 3) := by decide +kernel
theorem dX5_foresee_95 : decode cX5_foresee 95 = .ok (.getfield 157, 3) := by decide +kernel
theorem dX5_foresee_98 : decode cX5_foresee 98 = .ok (.aload_n 0, 1) := by decide +kernel
theorem dX5_foresee_99 : decode cX5_foresee 99 = .ok (.getfield 27, 3) := by decide +kernel
theorem dX5_foresee_102 : decode cX5_foresee 102 = .ok (.getfield 64, 3) := by decide +kernel
theorem dX5_foresee_105 : decode cX5_foresee 105 = .ok (.getfield 157, 3) := by decide +kernel
theorem dX5_foresee_108 : decode cX5_foresee 108 = .ok (.isub, 1) := by decide +kernel
theorem dX5_foresee_109 : decode cX5_foresee 109 = .ok (.ireturn, 1) := by decide +kernel
theorem dX5_foresee_110 : decode cX5_foresee 110 = .ok (.aload_n 0, 1) := by decide +kernel
theorem dX5_foresee_111 : decode cX5_foresee 111 = .ok (.getfield 31, 3) := by decide +kernel
theorem dX5_foresee_114 : decode cX5_foresee 114 = .ok (.iconst 0, 1) := by decide +kernel
theorem dX5_foresee_115 : decode cX5_foresee 115 = .ok (.invokevirtual 193, 3) := by decide +kernel
theorem dX5_foresee_118 : decode cX5_foresee 118 = .ok (.ireturn, 1) := by decide +kernel
theorem dX5_foresee_119 : decode cX5_foresee 119 = .ok (.aload_n 0, 1) := by decide +kernel
theorem dX5_foresee_120 : decode cX5_foresee 120 = .ok (.getfield 31, 3) := by decide +kernel
theorem dX5_foresee_123 : decode cX5_foresee 123 = .ok (.iconst 1, 1) := by decide +kernel
theorem dX5_foresee_124 : decode cX5_foresee 124 = .ok (.invokevirtual 193, 3) := by decide +kernel
theorem dX5_foresee_127 : decode cX5_foresee 127 = .ok (.ireturn, 1) := by decide +kernel
theorem dX5_foresee_128 : decode cX5_foresee 128 = .ok (.aload_n 0, 1) := by decide +kernel
theorem dX5_foresee_129 : decode cX5_foresee 129 = .ok (.getfield 31, 3) := by decide +kernel
theorem dX5_foresee_132 : decode cX5_foresee 132 = .ok (.getfield 64, 3) := by decide +kernel
theorem dX5_foresee_135 : decode cX5_foresee 135 = .ok (.getfield 196, 3) := by decide +kernel
theorem dX5_foresee_138 : decode cX5_foresee 138 = .ok (.aload_n 0, 1) := by decide +kernel
theorem dX5_foresee_139 : decode cX5_foresee 139 = .ok (.getfield 27, 3) := by decide +kernel
theorem dX5_foresee_142 : decode cX5_foresee 142 = .ok (.getfield 64, 3) := by decide +kernel
theorem dX5_foresee_145 : decode cX5_foresee 145 = .ok (.getfield 196, 3) := by decide +kernel
theorem dX5_foresee_148 : decode cX5_foresee 148 = .ok (.isub, 1) := by decide +kernel
theorem dX5_foresee_149 : decode cX5_foresee 149 = .ok (.ireturn, 1) := by decide +kernel
set_option maxRecDepth 20000 in
theorem ggX5_falls_X5_isInside : GoodIn wsX5_falls wsX5_isInside := goodIn_r _ [10] (by decide +kernel) (by decide +kernel)
set_option maxRecDepth 20000 in
theorem gX5_falls_X5_isInside : GoodIn wsX5_falls (va_wsS RX5 80 yX5_isInside wsX5_isInside) := goodIn_app (goodIn_of _ (by decide +kernel)) ggX5_falls_X5_isInside
set_option maxRecDepth 20000 in
theorem ggX5_falls_X5_cellAt : GoodIn wsX5_falls wsX5_cellAt := goodIn_r _ [13] (by decide +kernel) (by decide +kernel)
set_option maxRecDepth 20000 in
theorem gX5_falls_X5_cellAt : GoodIn wsX5_falls (va_wsS RX5 89 yX5_cellAt wsX5_cellAt) := goodIn_app (goodIn_of _ (by decide +kernel)) ggX5_falls_X5_cellAt
set_option maxRecDepth 20000 in
theorem ggX5_falls_X1_copyFrom : GoodIn wsX5_falls wsX1_copyFrom := goodIn_r _ [18, 19, 20, 21, 22, 23, 24, 25, 26, 27, 28, 29, 30, 31, 32, 33, 34, 35, 36, 37, 38, 39, 40, 41, 42, 43, 44, 45, 46, 47, 48, 49, 50, 51, 52, 53, 54, 55, 56, 57, 58, 59, 60, 61, 62, 63, 261, 262, 263, 264, 265, 266, 267, 268, 269, 270, 271, 272, 273, 274, 275, 276, 277, 278, 279, 280, 281, 282, 283, 284, 285, 286, 287, 288, 289, 290, 291, 292] (by decide +kernel) (by decide +kernel)
set_option maxRecDepth 20000 in
theorem gX5_falls_X1_copyFrom : GoodIn wsX5_falls (wsV RX5 189 RX1 yX1_copyFrom wsX1_copyFrom) := goodIn_app (goodIn_of _ (by decide +kernel)) ggX5_falls_X1_copyFrom
set_option maxRecDepth 20000 in
theorem ggX5_falls_X1_letHoursGoBy : GoodIn wsX5_falls wsX1_letHoursGoBy := goodIn_r _ [67, 19, 21, 68, 69, 70, 17, 71, 20, 22, 72, 73, 74, 75, 76, 77, 78, 79, 45, 80, 52, 53, 54, 55, 81, 82, 83, 84, 49, 85, 86, 87, 88, 89, 90, 91, 92, 93, 48, 94, 9, 95, 96, 97, 98, 99, 100, 101, 102, 103, 104, 105, 106, 107, 108, 109, 110, 111, 112, 113, 114, 115, 26, 116, 34, 117, 118, 119, 120, 121, 122, 123, 124, 125, 59, 60, 126, 127, 128, 129, 130, 131, 132, 133, 134, 135, 62, 136, 137, 138, 139, 28, 140, 141, 142, 143, 51, 144, 145, 146, 147, 63, 148, 149, 150, 151, 38, 152, 153, 154, 155, 156, 157, 158, 159, 35, 36, 37, 39, 160, 161, 162, 163, 164, 165, 166, 167, 168, 169, 170, 171, 172, 173, 174, 175, 176, 177, 178, 179, 180, 181, 182, 183, 184, 185, 186, 187, 188, 189, 190, 191, 192, 193, 194, 195, 196, 197, 198, 199, 200, 201, 202, 203, 204, 205, 206, 207, 208, 209, 210, 211, 212, 213, 56, 57, 58, 214, 215, 216, 217, 218, 29, 30, 31, 32, 219, 220, 221, 222, 223, 224, 225, 226, 227, 228, 229, 230, 231, 232, 233, 234, 235, 236, 237, 238, 239, 240, 241, 242, 243, 244, 40, 33, 41, 245, 246, 247, 248, 249, 250, 251, 252, 253, 254, 261, 262, 263, 264, 277, 278, 279, 280, 281, 282, 283, 284, 285, 286, 287, 288, 289, 290, 291, 292, 265, 266, 267, 268, 269, 270, 271, 272, 273, 274, 275, 276] (by decide +kernel) (by decide +kernel)
set_option maxRecDepth 20000 in
theorem gX5_falls_X1_letHoursGoBy : GoodIn wsX5_falls (wsV RX5 160 RX1 yX1_letHoursGoBy wsX1_letHoursGoBy) := goodIn_app (goodIn_of _ (by decide +kernel)) ggX5_falls_X1_letHoursGoBy
theorem dX5_falls_0 : decode cX5_falls 0 = .ok (.iload_n 1, 1) := by decide +kernel
theorem dX5_falls_1 : decode cX5_falls 1 = .ok (.iload_n 2, 1) := by decide +kernel
theorem dX5_falls_2 : decode cX5_falls 2 = .ok (.invokestatic 80, 3) := by decide +kernel
theorem dX5_falls_5 : decode cX5_falls 5 = .ok (.ifCond .ne 13, 3) := by decide +kernel
theorem dX5_falls_8 : decode cX5_falls 8 = .ok (.new 84, 3) := by decide +kernel
theorem dX5_falls_11 : decode cX5_falls 11 = .ok (.dup, 1) := by decide +kernel
theorem dX5_falls_12 : decode cX5_falls 12 = .ok (.ldc 86, 2) := by decide +kernel
theorem dX5_falls_14 : decode cX5_falls 14 = .ok (.invokespecial 88, 3) := by decide +kernel
theorem dX5_falls_17 : decode cX5_falls 17 = .ok (.athrow, 1) := by decide +kernel
theorem dX5_falls_18 : decode cX5_falls 18 = .ok (.iload_n 1, 1) := by decide +kernel
theorem dX5_falls_19 : decode cX5_falls 19 = .ok (.iload_n 2, 1) := by decide +kernel
theorem dX5_falls_20 : decode cX5_falls 20 = .ok (.invokestatic 89, 3) := by decide +kernel
theorem dX5_falls_23 : decode cX5_falls 23 = .ok (.istore_n 3, 1) := by decide +kernel
theorem dX5_falls_24 : decode cX5_falls 24 = .ok (.aload_n 0, 1) := by decide +kernel
theorem dX5_falls_25 : decode cX5_falls 25 = .ok (.getfield 31, 3) := by decide +kernel
theorem dX5_falls_28 : decode cX5_falls 28 = .ok (.aload_n 0, 1) := by decide +kernel
theorem dX5_falls_29 : decode cX5_falls 29 = .ok (.getfield 27, 3) := by decide +kernel
theorem dX5_falls_32 : decode cX5_falls 32 = .ok (.invokevirtual 189, 3) := by decide +kernel
theorem dX5_falls_35 : decode cX5_falls 35 = .ok (.iconst 1, 1) := by decide +kernel
theorem dX5_falls_36 : decode cX5_falls 36 = .ok (.istore 4, 2) := by decide +kernel
theorem dX5_falls_38 : decode cX5_falls 38 = .ok (.iload 4, 2) := by decide +kernel
theorem dX5_falls_40 : decode cX5_falls 40 = .ok (.sipush 150, 3) := by decide +kernel
theorem dX5_falls_43 : decode cX5_falls 43 = .ok (.if_icmp .gt 35, 3) := by decide +kernel
theorem dX5_falls_46 : decode cX5_falls 46 = .ok (.aload_n 0, 1) := by decide +kernel
theorem dX5_falls_47 : decode cX5_falls 47 = .ok (.getfield 31, 3) := by decide +kernel
theorem dX5_falls_50 : decode cX5_falls 50 = .ok (.iconst 1, 1) := by decide +kernel
theorem dX5_falls_51 : decode cX5_falls 51 = .ok (.invokevirtual 160, 3) := by decide +kernel
theorem dX5_falls_54 : decode cX5_falls 54 = .ok (.aload_n 0, 1) := by decide +kernel
theorem dX5_falls_55 : decode cX5_falls 55 = .ok (.getfield 31, 3) := by decide +kernel
theorem dX5_falls_58 : decode cX5_falls 58 = .ok (.getfield 64, 3) := by decide +kernel
theorem dX5_falls_61 : decode cX5_falls 61 = .ok (.getfield 199, 3) := by decide +kernel
theorem dX5_falls_64 : decode cX5_falls 64 = .ok (.iload_n 3, 1) := by decide +kernel
theorem dX5_falls_65 : decode cX5_falls 65 = .ok (.iaload, 1) := by decide +kernel
theorem dX5_falls_66 : decode cX5_falls 66 = .ok (.ifCond .eq 6, 3) := by decide +kernel
theorem dX5_falls_69 : decode cX5_falls 69 = .ok (.iload 4, 2) := by decide +kernel
theorem dX5_falls_71 : decode cX5_falls 71 = .ok (.ireturn, 1) := by decide +kernel
theorem dX5_falls_72 : decode cX5_falls 72 = .ok (.iinc 4 1, 3) := by decide +kernel
theorem dX5_falls_75 : decode cX5_falls 75 = .ok (.goto (-37), 3) := by decide +kernel
theorem dX5_falls_78 : decode cX5_falls 78 = .ok (.iconst (-1), 1) := by decide +kernel
theorem dX5_falls_79 : decode cX5_falls 79 = .ok (.ireturn, 1) := by decide +kernel
set_option maxRecDepth 20000 in
theorem ggX5_lasts_X1_hasTeam : GoodIn wsX5_lasts wsX1_hasTeam := goodIn_r _ [10, 11, 259, 260, 261, 262] (by decide +kernel) (by decide +kernel)
set_option maxRecDepth 20000 in
theorem gX5_lasts_X1_hasTeam : GoodIn wsX5_lasts (wsV RX5 127 RX1 yX1_hasTeam wsX1_hasTeam) := goodIn_app (goodIn_of _ (by decide +kernel)) ggX5_lasts_X1_hasTeam
set_option maxRecDepth 20000 in
theorem ggX5_lasts_X3_isGone : GoodIn wsX5_lasts wsX3_isGone := goodIn_r _ [16, 17, 263, 264, 265, 266, 267, 268, 269, 270, 271, 272, 273, 274, 275, 276, 277, 278] (by decide +kernel) (by decide +kernel)
set_option maxRecDepth 20000 in
theorem gX5_lasts_X3_isGone : GoodIn wsX5_lasts (wsV RX5 134 RX3 yX3_isGone wsX3_isGone) := goodIn_app (goodIn_of _ (by decide +kernel)) ggX5_lasts_X3_isGone
set_option maxRecDepth 20000 in
theorem ggX5_lasts_X1_copyFrom : GoodIn wsX5_lasts wsX1_copyFrom := goodIn_r _ [21, 22, 11, 23, 24, 25, 26, 27, 28, 29, 30, 31, 32, 33, 34, 35, 36, 37, 38, 39, 40, 41, 42, 43, 44, 45, 46, 15, 47, 48, 49, 17, 50, 51, 52, 53, 54, 55, 56, 57, 58, 59, 60, 61, 62, 63, 259, 260, 261, 262, 279, 280, 281, 282, 283, 284, 285, 286, 287, 288, 289, 290, 263, 264, 265, 266, 267, 268, 269, 270, 271, 272, 273, 274, 275, 276, 277, 278] (by decide +kernel) (by decide +kernel)
set_option maxRecDepth 20000 in
theorem gX5_lasts_X1_copyFrom : GoodIn wsX5_lasts (wsV RX5 189 RX1 yX1_copyFrom wsX1_copyFrom) := goodIn_app (goodIn_of _ (by decide +kernel)) ggX5_lasts_X1_copyFrom
set_option maxRecDepth 20000 in
theorem ggX5_lasts_X1_letHoursGoBy : GoodIn wsX5_lasts wsX1_letHoursGoBy := goodIn_r _ [67, 22, 23, 68, 69, 70, 9, 71, 11, 24, 72, 73, 74, 75, 76, 77, 78, 79, 15, 80, 52, 53, 54, 55, 81, 13, 14, 16, 17, 82, 83, 84, 85, 86, 87, 88, 89, 90, 49, 91, 92, 93, 94, 95, 96, 97, 98, 99, 100, 101, 102, 103, 104, 105, 106, 107, 108, 109, 110, 111, 112, 113, 28, 114, 36, 115, 116, 117, 118, 119, 120, 121, 122, 123, 59, 60, 124, 125, 126, 127, 128, 129, 130, 131, 132, 133, 62, 134, 135, 136, 137, 30, 138, 139, 140, 141, 51, 142, 143, 144, 145, 63, 146, 147, 148, 149, 40, 150, 151, 152, 153, 154, 155, 156, 157, 37, 38, 39, 41, 158, 159, 160, 161, 162, 163, 164, 165, 166, 167, 168, 169, 170, 171, 172, 173, 174, 175, 176, 177, 178, 179, 180, 181, 182, 183, 184, 185, 186, 187, 188, 189, 190, 191, 192, 193, 194, 195, 196, 197, 198, 199, 200, 201, 202, 203, 204, 205, 206, 207, 208, 209, 210, 211, 56, 57, 58, 212, 213, 214, 215, 216, 31, 32, 33, 34, 217, 218, 219, 220, 221, 222, 223, 224, 225, 226, 227, 228, 229, 230, 231, 232, 233, 234, 235, 236, 237, 238, 239, 240, 241, 242, 42, 35, 43, 243, 244, 245, 246, 247, 248, 249, 250, 251, 252, 259, 260, 261, 262, 263, 264, 265, 266, 267, 268, 269, 270, 271, 272, 273, 274, 275, 276, 277, 278, 279, 280, 281, 282, 283, 284, 285, 286, 287, 288, 289, 290] (by decide +kernel) (by decide +kernel)
set_option maxRecDepth 20000 in
theorem gX5_lasts_X1_letHoursGoBy : GoodIn wsX5_lasts (wsV RX5 160 RX1 yX1_letHoursGoBy wsX1_letHoursGoBy) := goodIn_app (goodIn_of _ (by decide +kernel)) ggX5_lasts_X1_letHoursGoBy
theorem dX5_lasts_0 : decode cX5_lasts 0 = .ok (.aload_n 0, 1) := by decide +kernel
theorem dX5_lasts_1 : decode cX5_lasts 1 = .ok (.getfield 27, 3) := by decide +kernel
theorem dX5_lasts_4 : decode cX5_lasts 4 = .ok (.iload_n 1, 1) := by decide +kernel
theorem dX5_lasts_5 : decode cX5_lasts 5 = .ok (.invokevirtual 127, 3) := by decide +kernel
theorem dX5_lasts_8 : decode cX5_lasts 8 = .ok (.ifCond .ne 13, 3) := by decide +kernel
theorem dX5_lasts_11 : decode cX5_lasts 11 = .ok (.new 84, 3) := by decide +kernel
theorem dX5_lasts_14 : decode cX5_lasts 14 = .ok (.dup, 1) := by decide +kernel
theorem dX5_lasts_15 : decode cX5_lasts 15 = .ok (.ldc 130, 2) := by decide +kernel
theorem dX5_lasts_17 : decode cX5_lasts 17 = .ok (.invokespecial 88, 3) := by decide +kernel
theorem dX5_lasts_20 : decode cX5_lasts 20 = .ok (.athrow, 1) := by decide +kernel
theorem dX5_lasts_21 : decode cX5_lasts 21 = .ok (.aload_n 0, 1) := by decide +kernel
theorem dX5_lasts_22 : decode cX5_lasts 22 = .ok (.getfield 27, 3) := by decide +kernel
theorem dX5_lasts_25 : decode cX5_lasts 25 = .ok (.getfield 117, 3) := by decide +kernel
theorem dX5_lasts_28 : decode cX5_lasts 28 = .ok (.iload_n 1, 1) := by decide +kernel
theorem dX5_lasts_29 : decode cX5_lasts 29 = .ok (.aaload, 1) := by decide +kernel
theorem dX5_lasts_30 : decode cX5_lasts 30 = .ok (.invokevirtual 134, 3) := by decide +kernel
theorem dX5_lasts_33 : decode cX5_lasts 33 = .ok (.ifCond .eq 5, 3) := by decide +kernel
theorem dX5_lasts_36 : decode cX5_lasts 36 = .ok (.iconst 0, 1) := by decide +kernel
theorem dX5_lasts_37 : decode cX5_lasts 37 = .ok (.ireturn, 1) := by decide +kernel
theorem dX5_lasts_38 : decode cX5_lasts 38 = .ok (.aload_n 0, 1) := by decide +kernel
theorem dX5_lasts_39 : decode cX5_lasts 39 = .ok (.getfield 31, 3) := by decide +kernel
theorem dX5_lasts_42 : decode cX5_lasts 42 = .ok (.aload_n 0, 1) := by decide +kernel
theorem dX5_lasts_43 : decode cX5_lasts 43 = .ok (.getfield 27, 3) := by decide +kernel
theorem dX5_lasts_46 : decode cX5_lasts 46 = .ok (.invokevirtual 189, 3) := by decide +kernel
theorem dX5_lasts_49 : decode cX5_lasts 49 = .ok (.iconst 1, 1) := by decide +kernel
theorem dX5_lasts_50 : decode cX5_lasts 50 = .ok (.istore_n 2, 1) := by decide +kernel
theorem dX5_lasts_51 : decode cX5_lasts 51 = .ok (.iload_n 2, 1) := by decide +kernel
theorem dX5_lasts_52 : decode cX5_lasts 52 = .ok (.sipush 150, 3) := by decide +kernel
theorem dX5_lasts_55 : decode cX5_lasts 55 = .ok (.if_icmp .gt 34, 3) := by decide +kernel
theorem dX5_lasts_58 : decode cX5_lasts 58 = .ok (.aload_n 0, 1) := by decide +kernel
theorem dX5_lasts_59 : decode cX5_lasts 59 = .ok (.getfield 31, 3) := by decide +kernel
theorem dX5_lasts_62 : decode cX5_lasts 62 = .ok (.iconst 1, 1) := by decide +kernel
theorem dX5_lasts_63 : decode cX5_lasts 63 = .ok (.invokevirtual 160, 3) := by decide +kernel
theorem dX5_lasts_66 : decode cX5_lasts 66 = .ok (.aload_n 0, 1) := by decide +kernel
theorem dX5_lasts_67 : decode cX5_lasts 67 = .ok (.getfield 31, 3) := by decide +kernel
theorem dX5_lasts_70 : decode cX5_lasts 70 = .ok (.getfield 117, 3) := by decide +kernel
theorem dX5_lasts_73 : decode cX5_lasts 73 = .ok (.iload_n 1, 1) := by decide +kernel
theorem dX5_lasts_74 : decode cX5_lasts 74 = .ok (.aaload, 1) := by decide +kernel
theorem dX5_lasts_75 : decode cX5_lasts 75 = .ok (.invokevirtual 134, 3) := by decide +kernel
theorem dX5_lasts_78 : decode cX5_lasts 78 = .ok (.ifCond .eq 5, 3) := by decide +kernel
theorem dX5_lasts_81 : decode cX5_lasts 81 = .ok (.iload_n 2, 1) := by decide +kernel
theorem dX5_lasts_82 : decode cX5_lasts 82 = .ok (.ireturn, 1) := by decide +kernel
theorem dX5_lasts_83 : decode cX5_lasts 83 = .ok (.iinc 2 1, 3) := by decide +kernel
theorem dX5_lasts_86 : decode cX5_lasts 86 = .ok (.goto (-35), 3) := by decide +kernel
theorem dX5_lasts_89 : decode cX5_lasts 89 = .ok (.iconst (-1), 1) := by decide +kernel
theorem dX5_lasts_90 : decode cX5_lasts 90 = .ok (.ireturn, 1) := by decide +kernel
set_option maxRecDepth 20000 in
theorem ggX5_advise_X1_hasTeam : GoodIn wsX5_advise wsX1_hasTeam := goodIn_r _ [11, 12, 275, 276, 277, 278] (by decide +kernel) (by decide +kernel)
set_option maxRecDepth 20000 in
theorem gX5_advise_X1_hasTeam : GoodIn wsX5_advise (wsV RX5 127 RX1 yX1_hasTeam wsX1_hasTeam) := goodIn_app (goodIn_of _ (by decide +kernel)) ggX5_advise_X1_hasTeam
set_option maxRecDepth 20000 in
theorem ggX5_advise_X3_isGone : GoodIn wsX5_advise wsX3_isGone := goodIn_r _ [17, 18, 279, 280, 281, 282, 283, 284, 285, 286, 287, 288, 289, 290, 291, 292, 293, 294] (by decide +kernel) (by decide +kernel)
set_option maxRecDepth 20000 in
theorem gX5_advise_X3_isGone : GoodIn wsX5_advise (wsV RX5 134 RX3 yX3_isGone wsX3_isGone) := goodIn_app (goodIn_of _ (by decide +kernel)) ggX5_advise_X3_isGone
set_option maxRecDepth 20000 in
theorem ggX5_advise_X5_tunnelsAfterDigging : GoodIn wsX5_advise wsX5_tunnelsAfterDigging := goodIn_r _ [23, 24, 5, 6, 25, 26, 27, 28, 29, 10, 30, 31, 12, 32, 33, 34, 35, 36, 37, 38, 39, 40, 41, 42, 43, 44, 45, 46, 47, 48, 49, 50, 51, 52, 53, 54, 55, 16, 56, 57, 58, 18, 59, 60, 61, 62, 63, 64, 65, 66, 67, 68, 69, 70, 71, 72, 73, 74, 75, 76, 77, 78, 79, 80, 81, 82, 83, 84, 85, 86, 87, 88, 89, 90, 91, 92, 93, 94, 14, 15, 17, 95, 96, 97, 98, 99, 100, 101, 102, 103, 104, 22, 105, 106, 107, 108, 109, 110, 111, 112, 113, 114, 115, 116, 117, 118, 119, 120, 121, 122, 123, 124, 125, 126, 127, 128, 129, 130, 131, 132, 133, 134, 135, 136, 137, 138, 139, 140, 141, 142, 143, 144, 145, 146, 147, 148, 149, 150, 151, 152, 153, 154, 155, 156, 157, 158, 159, 160, 161, 162, 163, 164, 165, 166, 167, 168, 169, 170, 171, 172, 173, 174, 175, 176, 177, 178, 179, 180, 181, 182, 183, 184, 185, 186, 187, 188, 189, 190, 191, 192, 193, 194, 195, 196, 197, 198, 199, 200, 201, 202, 203, 204, 205, 206, 207, 208, 209, 210, 211, 212, 213, 214, 215, 216, 217, 218, 219, 220, 221, 222, 223, 224, 225, 226, 227, 228, 229, 230, 231, 232, 233, 234, 235, 236, 237, 238, 239, 240, 241, 242, 243, 244, 245, 246, 247, 248, 249, 250, 251, 252, 253, 254, 255, 256, 257, 258, 259, 260, 261, 262, 263, 264, 265, 266, 267, 268, 269, 270, 271, 272, 273, 274, 275, 276, 277, 278, 279, 280, 281, 282, 283, 284, 285, 286, 287, 288, 289, 290, 291, 292, 293, 294, 295, 296, 297, 298, 299, 300, 301, 302, 303, 304, 305, 306] (by decide +kernel) (by decide +kernel)
set_option maxRecDepth 20000 in
theorem gX5_advise_X5_tunnelsAfterDigging : GoodIn wsX5_advise (wsV RX5 202 RX5 yX5_tunnelsAfterDigging wsX5_tunnelsAfterDigging) := goodIn_app (goodIn_of _ (by decide +kernel)) ggX5_advise_X5_tunnelsAfterDigging
theorem dX5_advise_0 : decode cX5_advise 0 = .ok (.aload_n 0, 1) := by decide +kernel
theorem dX5_advise_1 : decode cX5_advise 1 = .ok (.getfield 27, 3) := by decide +kernel
theorem dX5_advise_4 : decode cX5_advise 4 = .ok (.iload_n 1, 1) := by decide +kernel
theorem dX5_advise_5 : decode cX5_advise 5 = .ok (.invokevirtual 127, 3) := by decide +kernel
theorem dX5_advise_8 : decode cX5_advise 8 = .ok (.ifCond .ne 13, 3) := by decide +kernel
theorem dX5_advise_11 : decode cX5_advise 11 = .ok (.new 84, 3) := by decide +kernel
theorem dX5_advise_14 : decode cX5_advise 14 = .ok (.dup, 1) := by decide +kernel
theorem dX5_advise_15 : decode cX5_advise 15 = .ok (.ldc 130, 2) := by decide +kernel
theorem dX5_advise_17 : decode cX5_advise 17 = .ok (.invokespecial 88, 3) := by decide +kernel
theorem dX5_advise_20 : decode cX5_advise 20 = .ok (.athrow, 1) := by decide +kernel
theorem dX5_advise_21 : decode cX5_advise 21 = .ok (.iload_n 2, 1) := by decide +kernel
theorem dX5_advise_22 : decode cX5_advise 22 = .ok (.iconst 1, 1) := by decide +kernel
theorem dX5_advise_23 : decode cX5_advise 23 = .ok (.if_icmp .lt 9, 3) := by decide +kernel
theorem dX5_advise_26 : decode cX5_advise 26 = .ok (.iload_n 2, 1) := by decide +kernel
theorem dX5_advise_27 : decode cX5_advise 27 = .ok (.bipush 60, 2) := by decide +kernel
theorem dX5_advise_29 : decode cX5_advise 29 = .ok (.if_icmp .le 13, 3) := by decide +kernel
theorem dX5_advise_32 : decode cX5_advise 32 = .ok (.new 55, 3) := by decide +kernel
theorem dX5_advise_35 : decode cX5_advise 35 = .ok (.dup, 1) := by decide +kernel
theorem dX5_advise_36 : decode cX5_advise 36 = .ok (.ldc 155, 2) := by decide +kernel
theorem dX5_advise_38 : decode cX5_advise 38 = .ok (.invokespecial 59, 3) := by decide +kernel
theorem dX5_advise_41 : decode cX5_advise 41 = .ok (.athrow, 1) := by decide +kernel
theorem dX5_advise_42 : decode cX5_advise 42 = .ok (.aload_n 0, 1) := by decide +kernel
theorem dX5_advise_43 : decode cX5_advise 43 = .ok (.getfield 27, 3) := by decide +kernel
theorem dX5_advise_46 : decode cX5_advise 46 = .ok (.getfield 117, 3) := by decide +kernel
theorem dX5_advise_49 : decode cX5_advise 49 = .ok (.iload_n 1, 1) := by decide +kernel
theorem dX5_advise_50 : decode cX5_advise 50 = .ok (.aaload, 1) := by decide +kernel
theorem dX5_advise_51 : decode cX5_advise 51 = .ok (.invokevirtual 134, 3) := by decide +kernel
theorem dX5_advise_54 : decode cX5_advise 54 = .ok (.ifCond .eq 5, 3) := by decide +kernel
theorem dX5_advise_57 : decode cX5_advise 57 = .ok (.iconst (-1), 1) := by decide +kernel
theorem dX5_advise_58 : decode cX5_advise 58 = .ok (.ireturn, 1) := by decide +kernel
theorem dX5_advise_59 : decode cX5_advise 59 = .ok (.iconst (-1), 1) := by decide +kernel
theorem dX5_advise_60 : decode cX5_advise 60 = .ok (.istore_n 3, 1) := by decide +kernel
theorem dX5_advise_61 : decode cX5_advise 61 = .ok (.iconst (-1), 1) := by decide +kernel
theorem dX5_advise_62 : decode cX5_advise 62 = .ok (.istore 4, 2) := by decide +kernel
theorem dX5_advise_64 : decode cX5_advise 64 = .ok (.iconst 0, 1) := by decide +kernel
theorem dX5_advise_65 : decode cX5_advise 65 = .ok (.istore 5, 2) := by decide +kernel
theorem dX5_advise_67 : decode cX5_advise 67 = .ok (.iload 5, 2) := by decide +kernel
theorem dX5_advise_69 : decode cX5_advise 69 = .ok (.iconst 4, 1) := by decide +kernel
theorem dX5_advise_70 : decode cX5_advise 70 = .ok (.if_icmp .ge 33, 3) := by decide +kernel
theorem dX5_advise_73 : decode cX5_advise 73 = .ok (.aload_n 0, 1) := by decide +kernel
theorem dX5_advise_74 : decode cX5_advise 74 = .ok (.iload_n 1, 1) := by decide +kernel
theorem dX5_advise_75 : decode cX5_advise 75 = .ok (.iload 5, 2) := by decide +kernel
theorem dX5_advise_77 : decode cX5_advise 77 = .ok (.iload_n 2, 1) := by decide +kernel
theorem dX5_advise_78 : decode cX5_advise 78 = .ok (.invokevirtual 202, 3) := by decide +kernel
theorem dX5_advise_81 : decode cX5_advise 81 = .ok (.istore 6, 2) := by decide +kernel
theorem dX5_advise_83 : decode cX5_advise 83 = .ok (.iload 6, 2) := by decide +kernel
theorem dX5_advise_85 : decode cX5_advise 85 = .ok (.iload 4, 2) := by decide +kernel
theorem dX5_advise_87 : decode cX5_advise 87 = .ok (.if_icmp .le 10, 3) := by decide +kernel
theorem dX5_advise_90 : decode cX5_advise 90 = .ok (.iload 6, 2) := by decide +kernel
theorem dX5_advise_92 : decode cX5_advise 92 = .ok (.istore 4, 2) := by decide +kernel
theorem dX5_advise_94 : decode cX5_advise 94 = .ok (.iload 5, 2) := by decide +kernel
theorem dX5_advise_96 : decode cX5_advise 96 = .ok (.istore_n 3, 1) := by decide +kernel
theorem dX5_advise_97 : decode cX5_advise 97 = .ok (.iinc 5 1, 3) := by decide +kernel
theorem dX5_advise_100 : decode cX5_advise 100 = .ok (.goto (-33), 3) := by decide +kernel
theorem dX5_advise_103 : decode cX5_advise 103 = .ok (.iload_n 3, 1) := by decide +kernel
theorem dX5_advise_104 : decode cX5_advise 104 = .ok (.ireturn, 1) := by decide +kernel
set_option maxRecDepth 20000 in
theorem ggX5_draw_X5_cellAt : GoodIn wsX5_draw wsX5_cellAt := goodIn_r _ [6] (by decide +kernel) (by decide +kernel)
set_option maxRecDepth 20000 in
theorem gX5_draw_X5_cellAt : GoodIn wsX5_draw (va_wsS RX5 89 yX5_cellAt wsX5_cellAt) := goodIn_app (goodIn_of _ (by decide +kernel)) ggX5_draw_X5_cellAt
set_option maxRecDepth 20000 in
theorem ggX5_draw_X5_signOf : GoodIn wsX5_draw wsX5_signOf := goodIn_r _ [10, 11, 12, 13, 14, 15, 16, 17, 18, 19, 20, 21, 22, 23, 24, 25, 26, 27, 28, 29, 30, 31, 32, 33, 34, 35, 36, 37, 38, 39, 40, 41, 42, 43, 44, 45, 46, 47, 48, 49, 50, 51, 52, 53, 54, 55, 56, 57, 58, 59, 60, 61, 62, 63, 64, 65, 66, 67, 68, 69, 70, 71, 72, 73, 74, 75, 76, 77, 78, 79] (by decide +kernel) (by decide +kernel)
set_option maxRecDepth 20000 in
theorem gX5_draw_X5_signOf : GoodIn wsX5_draw (wsV RX5 206 RX5 yX5_signOf wsX5_signOf) := goodIn_app (goodIn_of _ (by decide +kernel)) ggX5_draw_X5_signOf
theorem dX5_draw_0 : decode cX5_draw 0 = .ok (.iconst 0, 1) := by decide +kernel
theorem dX5_draw_1 : decode cX5_draw 1 = .ok (.istore_n 1, 1) := by decide +kernel
theorem dX5_draw_2 : decode cX5_draw 2 = .ok (.iload_n 1, 1) := by decide +kernel
theorem dX5_draw_3 : decode cX5_draw 3 = .ok (.sipush 156, 3) := by decide +kernel
theorem dX5_draw_6 : decode cX5_draw 6 = .ok (.if_icmp .ge 43, 3) := by decide +kernel
theorem dX5_draw_9 : decode cX5_draw 9 = .ok (.iload_n 1, 1) := by decide +kernel
theorem dX5_draw_10 : decode cX5_draw 10 = .ok (.bipush 13, 2) := by decide +kernel
theorem dX5_draw_12 : decode cX5_draw 12 = .ok (.irem, 1) := by decide +kernel
theorem dX5_draw_13 : decode cX5_draw 13 = .ok (.istore_n 2, 1) := by decide +kernel
theorem dX5_draw_14 : decode cX5_draw 14 = .ok (.aload_n 0, 1) := by decide +kernel
theorem dX5_draw_15 : decode cX5_draw 15 = .ok (.getfield 16, 3) := by decide +kernel
theorem dX5_draw_18 : decode cX5_draw 18 = .ok (.iload_n 1, 1) := by decide +kernel
theorem dX5_draw_19 : decode cX5_draw 19 = .ok (.iload_n 2, 1) := by decide +kernel
theorem dX5_draw_20 : decode cX5_draw 20 = .ok (.bipush 12, 2) := by decide +kernel
theorem dX5_draw_22 : decode cX5_draw 22 = .ok (.if_icmp .ne 8, 3) := by decide +kernel
theorem dX5_draw_25 : decode cX5_draw 25 = .ok (.bipush 10, 2) := by decide +kernel
theorem dX5_draw_27 : decode cX5_draw 27 = .ok (.goto 15, 3) := by decide +kernel
theorem dX5_draw_30 : decode cX5_draw 30 = .ok (.aload_n 0, 1) := by decide +kernel
theorem dX5_draw_31 : decode cX5_draw 31 = .ok (.iload_n 2, 1) := by decide +kernel
theorem dX5_draw_32 : decode cX5_draw 32 = .ok (.iload_n 1, 1) := by decide +kernel
theorem dX5_draw_33 : decode cX5_draw 33 = .ok (.bipush 13, 2) := by decide +kernel
theorem dX5_draw_35 : decode cX5_draw 35 = .ok (.idiv, 1) := by decide +kernel
theorem dX5_draw_36 : decode cX5_draw 36 = .ok (.invokestatic 89, 3) := by decide +kernel
theorem dX5_draw_39 : decode cX5_draw 39 = .ok (.invokevirtual 206, 3) := by decide +kernel
theorem dX5_draw_42 : decode cX5_draw 42 = .ok (.iastore, 1) := by decide +kernel
theorem dX5_draw_43 : decode cX5_draw 43 = .ok (.iinc 1 1, 3) := by decide +kernel
theorem dX5_draw_46 : decode cX5_draw 46 = .ok (.goto (-44), 3) := by decide +kernel
theorem dX5_draw_49 : decode cX5_draw 49 = .ok (.aload_n 0, 1) := by decide +kernel
theorem dX5_draw_50 : decode cX5_draw 50 = .ok (.sipush 156, 3) := by decide +kernel
theorem dX5_draw_53 : decode cX5_draw 53 = .ok (.putfield 20, 3) := by decide +kernel
theorem dX5_draw_56 : decode cX5_draw 56 = .ok (.aload_n 0, 1) := by decide +kernel
theorem dX5_draw_57 : decode cX5_draw 57 = .ok (.getfield 20, 3) := by decide +kernel
theorem dX5_draw_60 : decode cX5_draw 60 = .ok (.ireturn, 1) := by decide +kernel
theorem dX5_byteAt_0 : decode cX5_byteAt 0 = .ok (.iload_n 1, 1) := by decide +kernel
theorem dX5_byteAt_1 : decode cX5_byteAt 1 = .ok (.ifCond .lt 11, 3) := by decide +kernel
theorem dX5_byteAt_4 : decode cX5_byteAt 4 = .ok (.iload_n 1, 1) := by decide +kernel
theorem dX5_byteAt_5 : decode cX5_byteAt 5 = .ok (.aload_n 0, 1) := by decide +kernel
theorem dX5_byteAt_6 : decode cX5_byteAt 6 = .ok (.getfield 20, 3) := by decide +kernel
theorem dX5_byteAt_9 : decode cX5_byteAt 9 = .ok (.if_icmp .lt 13, 3) := by decide +kernel
theorem dX5_byteAt_12 : decode cX5_byteAt 12 = .ok (.new 84, 3) := by decide +kernel
theorem dX5_byteAt_15 : decode cX5_byteAt 15 = .ok (.dup, 1) := by decide +kernel
theorem dX5_byteAt_16 : decode cX5_byteAt 16 = .ok (.ldc 209, 2) := by decide +kernel
theorem dX5_byteAt_18 : decode cX5_byteAt 18 = .ok (.invokespecial 88, 3) := by decide +kernel
theorem dX5_byteAt_21 : decode cX5_byteAt 21 = .ok (.athrow, 1) := by decide +kernel
theorem dX5_byteAt_22 : decode cX5_byteAt 22 = .ok (.aload_n 0, 1) := by decide +kernel
theorem dX5_byteAt_23 : decode cX5_byteAt 23 = .ok (.getfield 16, 3) := by decide +kernel
theorem dX5_byteAt_26 : decode cX5_byteAt 26 = .ok (.iload_n 1, 1) := by decide +kernel
theorem dX5_byteAt_27 : decode cX5_byteAt 27 = .ok (.iaload, 1) := by decide +kernel
theorem dX5_byteAt_28 : decode cX5_byteAt 28 = .ok (.ireturn, 1) := by decide +kernel
set_option maxRecDepth 20000 in
theorem ggX5_share_X0_wallsFallen : GoodIn wsX5_share wsX0_wallsFallen := goodIn_r _ [7, 8, 23, 24, 25, 26, 27, 28, 29, 30, 31, 32, 33, 34] (by decide +kernel) (by decide +kernel)
set_option maxRecDepth 20000 in
theorem gX5_share_X0_wallsFallen : GoodIn wsX5_share (wsV RX5 211 RX0 yX0_wallsFallen wsX0_wallsFallen) := goodIn_app (goodIn_of _ (by decide +kernel)) ggX5_share_X0_wallsFallen
set_option maxRecDepth 20000 in
theorem ggX5_share_X0_wallsStanding : GoodIn wsX5_share wsX0_wallsStanding := goodIn_r _ [12, 8, 23, 24, 25, 26, 27, 28, 29, 30, 31, 32, 33, 34] (by decide +kernel) (by decide +kernel)
set_option maxRecDepth 20000 in
theorem gX5_share_X0_wallsStanding : GoodIn wsX5_share (wsV RX5 214 RX0 yX0_wallsStanding wsX0_wallsStanding) := goodIn_app (goodIn_of _ (by decide +kernel)) ggX5_share_X0_wallsStanding
theorem dX5_share_0 : decode cX5_share 0 = .ok (.aload_n 0, 1) := by decide +kernel
theorem dX5_share_1 : decode cX5_share 1 = .ok (.getfield 27, 3) := by decide +kernel
theorem dX5_share_4 : decode cX5_share 4 = .ok (.getfield 64, 3) := by decide +kernel
theorem dX5_share_7 : decode cX5_share 7 = .ok (.invokevirtual 211, 3) := by decide +kernel
theorem dX5_share_10 : decode cX5_share 10 = .ok (.istore_n 1, 1) := by decide +kernel
theorem dX5_share_11 : decode cX5_share 11 = .ok (.iload_n 1, 1) := by decide +kernel
theorem dX5_share_12 : decode cX5_share 12 = .ok (.aload_n 0, 1) := by decide +kernel
theorem dX5_share_13 : decode cX5_share 13 = .ok (.getfield 27, 3) := by decide +kernel
theorem dX5_share_16 : decode cX5_share 16 = .ok (.getfield 64, 3) := by decide +kernel
theorem dX5_share_19 : decode cX5_share 19 = .ok (.invokevirtual 214, 3) := by decide +kernel
theorem dX5_share_22 : decode cX5_share 22 = .ok (.iadd, 1) := by decide +kernel
theorem dX5_share_23 : decode cX5_share 23 = .ok (.istore_n 2, 1) := by decide +kernel
theorem dX5_share_24 : decode cX5_share 24 = .ok (.iload_n 2, 1) := by decide +kernel
theorem dX5_share_25 : decode cX5_share 25 = .ok (.ifCond .ne 5, 3) := by decide +kernel
theorem dX5_share_28 : decode cX5_share 28 = .ok (.dconst 0, 1) := by decide +kernel
theorem dX5_share_29 : decode cX5_share 29 = .ok (.dreturn, 1) := by decide +kernel
theorem dX5_share_30 : decode cX5_share 30 = .ok (.iload_n 1, 1) := by decide +kernel
theorem dX5_share_31 : decode cX5_share 31 = .ok (.i2d, 1) := by decide +kernel
theorem dX5_share_32 : decode cX5_share 32 = .ok (.iload_n 2, 1) := by decide +kernel
theorem dX5_share_33 : decode cX5_share 33 = .ok (.i2d, 1) := by decide +kernel
theorem dX5_share_34 : decode cX5_share 34 = .ok (.ddiv, 1) := by decide +kernel
theorem dX5_share_35 : decode cX5_share 35 = .ok (.dreturn, 1) := by decide +kernel
set_option maxRecDepth 20000 in
theorem ggX5_digest_X5_countOf : GoodIn wsX5_digest wsX5_countOf := goodIn_r _ [13, 3, 4, 14, 5, 15, 16, 17, 7, 18, 19, 20, 21, 22, 23, 24, 25, 26, 27, 28, 29, 30, 31, 32, 33, 34, 35, 36, 37, 38, 39, 40, 41, 42, 43, 44, 45, 46, 47, 48, 49, 50, 51, 52, 53, 54, 55, 56, 89, 90, 91, 92, 93, 94, 95, 96, 97, 98, 99, 100, 101, 102, 103, 104, 105, 106, 107, 108, 109, 110, 111, 112, 113, 114, 115, 116, 117, 118, 119, 120, 121, 122, 123, 124, 125, 126, 127, 128] (by decide +kernel) (by decide +kernel)
set_option maxRecDepth 20000 in
theorem gX5_digest_X5_countOf : GoodIn wsX5_digest (wsV RX5 165 RX5 yX5_countOf wsX5_countOf) := goodIn_app (goodIn_of _ (by decide +kernel)) ggX5_digest_X5_countOf
set_option maxRecDepth 20000 in
theorem ggX5_digest_X0_valueOf : GoodIn wsX5_digest wsX0_valueOf := goodIn_r _ [60, 61, 42, 37, 62, 63, 51, 64, 65, 99, 100, 101, 102, 103, 104, 105, 106, 107, 108, 109, 110] (by decide +kernel) (by decide +kernel)
set_option maxRecDepth 20000 in
theorem gX5_digest_X0_valueOf : GoodIn wsX5_digest (wsV RX5 110 RX0 yX0_valueOf wsX0_valueOf) := goodIn_app (goodIn_of _ (by decide +kernel)) ggX5_digest_X0_valueOf
set_option maxRecDepth 20000 in
theorem ggX5_digest_X3_valueOf : GoodIn wsX5_digest wsX3_valueOf := goodIn_r _ [69, 70, 71, 31, 72, 73, 74, 75, 76, 77, 78, 79, 29, 80, 81, 113, 114, 115, 116, 117, 118, 119, 120, 121, 122, 123, 124, 125, 126, 127, 128] (by decide +kernel) (by decide +kernel)
set_option maxRecDepth 20000 in
theorem gX5_digest_X3_valueOf : GoodIn wsX5_digest (wsV RX5 149 RX3 yX3_valueOf wsX3_valueOf) := goodIn_app (goodIn_of _ (by decide +kernel)) ggX5_digest_X3_valueOf
set_option maxRecDepth 20000 in
theorem ggX5_digest_X3_heardValue : GoodIn wsX5_digest wsX3_heardValue := goodIn_r _ [85, 86, 87, 88, 113, 114, 115, 116, 117, 118, 119, 120, 121, 122, 123, 124, 125, 126, 127, 128] (by decide +kernel) (by decide +kernel)
set_option maxRecDepth 20000 in
theorem gX5_digest_X3_heardValue : GoodIn wsX5_digest (wsV RX5 152 RX3 yX3_heardValue wsX3_heardValue) := goodIn_app (goodIn_of _ (by decide +kernel)) ggX5_digest_X3_heardValue
theorem dX5_digest_0 : decode cX5_digest 0 = .ok (.ldc2_w 217, 3) := by decide +kernel
theorem dX5_digest_3 : decode cX5_digest 3 = .ok (.lstore_n 1, 1) := by decide +kernel
theorem dX5_digest_4 : decode cX5_digest 4 = .ok (.iconst 0, 1) := by decide +kernel
theorem dX5_digest_5 : decode cX5_digest 5 = .ok (.istore_n 3, 1) := by decide +kernel
theorem dX5_digest_6 : decode cX5_digest 6 = .ok (.iload_n 3, 1) := by decide +kernel
theorem dX5_digest_7 : decode cX5_digest 7 = .ok (.bipush 12, 2) := by decide +kernel
theorem dX5_digest_9 : decode cX5_digest 9 = .ok (.if_icmp .ge 22, 3) := by decide +kernel
theorem dX5_digest_12 : decode cX5_digest 12 = .ok (.lload_n 1, 1) := by decide +kernel
theorem dX5_digest_13 : decode cX5_digest 13 = .ok (.ldc2_w 219, 3) := by decide +kernel
theorem dX5_digest_16 : decode cX5_digest 16 = .ok (.lmul, 1) := by decide +kernel
theorem dX5_digest_17 : decode cX5_digest 17 = .ok (.aload_n 0, 1) := by decide +kernel
theorem dX5_digest_18 : decode cX5_digest 18 = .ok (.iload_n 3, 1) := by decide +kernel
theorem dX5_digest_19 : decode cX5_digest 19 = .ok (.invokevirtual 165, 3) := by decide +kernel
theorem dX5_digest_22 : decode cX5_digest 22 = .ok (.i2l, 1) := by decide +kernel
theorem dX5_digest_23 : decode cX5_digest 23 = .ok (.ladd, 1) := by decide +kernel
theorem dX5_digest_24 : decode cX5_digest 24 = .ok (.lstore_n 1, 1) := by decide +kernel
theorem dX5_digest_25 : decode cX5_digest 25 = .ok (.iinc 3 1, 3) := by decide +kernel
theorem dX5_digest_28 : decode cX5_digest 28 = .ok (.goto (-22), 3) := by decide +kernel
theorem dX5_digest_31 : decode cX5_digest 31 = .ok (.iconst 0, 1) := by decide +kernel
theorem dX5_digest_32 : decode cX5_digest 32 = .ok (.istore_n 3, 1) := by decide +kernel
theorem dX5_digest_33 : decode cX5_digest 33 = .ok (.iload_n 3, 1) := by decide +kernel
theorem dX5_digest_34 : decode cX5_digest 34 = .ok (.sipush 144, 3) := by decide +kernel
theorem dX5_digest_37 : decode cX5_digest 37 = .ok (.if_icmp .ge 46, 3) := by decide +kernel
theorem dX5_digest_40 : decode cX5_digest 40 = .ok (.iconst 0, 1) := by decide +kernel
theorem dX5_digest_41 : decode cX5_digest 41 = .ok (.istore 4, 2) := by decide +kernel
theorem dX5_digest_43 : decode cX5_digest 43 = .ok (.iload 4, 2) := by decide +kernel
theorem dX5_digest_45 : decode cX5_digest 45 = .ok (.bipush 8, 2) := by decide +kernel
theorem dX5_digest_47 : decode cX5_digest 47 = .ok (.if_icmp .ge 30, 3) := by decide +kernel
theorem dX5_digest_50 : decode cX5_digest 50 = .ok (.lload_n 1, 1) := by decide +kernel
theorem dX5_digest_51 : decode cX5_digest 51 = .ok (.ldc2_w 219, 3) := by decide +kernel
theorem dX5_digest_54 : decode cX5_digest 54 = .ok (.lmul, 1) := by decide +kernel
theorem dX5_digest_55 : decode cX5_digest 55 = .ok (.aload_n 0, 1) := by decide +kernel
theorem dX5_digest_56 : decode cX5_digest 56 = .ok (.getfield 27, 3) := by decide +kernel
theorem dX5_digest_59 : decode cX5_digest 59 = .ok (.getfield 64, 3) := by decide +kernel
theorem dX5_digest_62 : decode cX5_digest 62 = .ok (.iload_n 3, 1) := by decide +kernel
theorem dX5_digest_63 : decode cX5_digest 63 = .ok (.iload 4, 2) := by decide +kernel
theorem dX5_digest_65 : decode cX5_digest 65 = .ok (.invokevirtual 110, 3) := by decide +kernel
theorem dX5_digest_68 : decode cX5_digest 68 = .ok (.i2l, 1) := by decide +kernel
theorem dX5_digest_69 : decode cX5_digest 69 = .ok (.ladd, 1) := by decide +kernel
theorem dX5_digest_70 : decode cX5_digest 70 = .ok (.lstore_n 1, 1) := by decide +kernel
theorem dX5_digest_71 : decode cX5_digest 71 = .ok (.iinc 4 1, 3) := by decide +kernel
theorem dX5_digest_74 : decode cX5_digest 74 = .ok (.goto (-31), 3) := by decide +kernel
theorem dX5_digest_77 : decode cX5_digest 77 = .ok (.iinc 3 1, 3) := by decide +kernel
theorem dX5_digest_80 : decode cX5_digest 80 = .ok (.goto (-47), 3) := by decide +kernel
theorem dX5_digest_83 : decode cX5_digest 83 = .ok (.iconst 0, 1) := by decide +kernel
theorem dX5_digest_84 : decode cX5_digest 84 = .ok (.istore_n 3, 1) := by decide +kernel
theorem dX5_digest_85 : decode cX5_digest 85 = .ok (.iload_n 3, 1) := by decide +kernel
theorem dX5_digest_86 : decode cX5_digest 86 = .ok (.aload_n 0, 1) := by decide +kernel
theorem dX5_digest_87 : decode cX5_digest 87 = .ok (.getfield 27, 3) := by decide +kernel
theorem dX5_digest_90 : decode cX5_digest 90 = .ok (.getfield 77, 3) := by decide +kernel
theorem dX5_digest_93 : decode cX5_digest 93 = .ok (.if_icmp .ge 84, 3) := by decide +kernel
theorem dX5_digest_96 : decode cX5_digest 96 = .ok (.iconst 0, 1) := by decide +kernel
theorem dX5_digest_97 : decode cX5_digest 97 = .ok (.istore 4, 2) := by decide +kernel
theorem dX5_digest_99 : decode cX5_digest 99 = .ok (.iload 4, 2) := by decide +kernel
theorem dX5_digest_101 : decode cX5_digest 101 = .ok (.bipush 10, 2) := by decide +kernel
theorem dX5_digest_103 : decode cX5_digest 103 = .ok (.if_icmp .ge 31, 3) := by decide +kernel
theorem dX5_digest_106 : decode cX5_digest 106 = .ok (.lload_n 1, 1) := by decide +kernel
theorem dX5_digest_107 : decode cX5_digest 107 = .ok (.ldc2_w 219, 3) := by decide +kernel
theorem dX5_digest_110 : decode cX5_digest 110 = .ok (.lmul, 1) := by decide +kernel
theorem dX5_digest_111 : decode cX5_digest 111 = .ok (.aload_n 0, 1) := by decide +kernel
theorem dX5_digest_112 : decode cX5_digest 112 = .ok (.getfield 27, 3) := by decide +kernel
theorem dX5_digest_115 : decode cX5_digest 115 = .ok (.getfield 117, 3) := by decide +kernel
theorem dX5_digest_118 : decode cX5_digest 118 = .ok (.iload_n 3, 1) := by decide +kernel
theorem dX5_digest_119 : decode cX5_digest 119 = .ok (.aaload, 1) := by decide +kernel
theorem dX5_digest_120 : decode cX5_digest 120 = .ok (.iload 4, 2) := by decide +kernel
theorem dX5_digest_122 : decode cX5_digest 122 = .ok (.invokevirtual 149, 3) := by decide +kernel
theorem dX5_digest_125 : decode cX5_digest 125 = .ok (.i2l, 1) := by decide +kernel
theorem dX5_digest_126 : decode cX5_digest 126 = .ok (.ladd, 1) := by decide +kernel
theorem dX5_digest_127 : decode cX5_digest 127 = .ok (.lstore_n 1, 1) := by decide +kernel
theorem dX5_digest_128 : decode cX5_digest 128 = .ok (.iinc 4 1, 3) := by decide +kernel
theorem dX5_digest_131 : decode cX5_digest 131 = .ok (.goto (-32), 3) := by decide +kernel
theorem dX5_digest_134 : decode cX5_digest 134 = .ok (.iconst 0, 1) := by decide +kernel
theorem dX5_digest_135 : decode cX5_digest 135 = .ok (.istore 4, 2) := by decide +kernel
theorem dX5_digest_137 : decode cX5_digest 137 = .ok (.iload 4, 2) := by decide +kernel
theorem dX5_digest_139 : decode cX5_digest 139 = .ok (.iconst 3, 1) := by decide +kernel
theorem dX5_digest_140 : decode cX5_digest 140 = .ok (.if_icmp .ge 31, 3) := by decide +kernel
theorem dX5_digest_143 : decode cX5_digest 143 = .ok (.lload_n 1, 1) := by decide +kernel
theorem dX5_digest_144 : decode cX5_digest 144 = .ok (.ldc2_w 219, 3) := by decide +kernel
theorem dX5_digest_147 : decode cX5_digest 147 = .ok (.lmul, 1) := by decide +kernel
theorem dX5_digest_148 : decode cX5_digest 148 = .ok (.aload_n 0, 1) := by decide +kernel
theorem dX5_digest_149 : decode cX5_digest 149 = .ok (.getfield 27, 3) := by decide +kernel
theorem dX5_digest_152 : decode cX5_digest 152 = .ok (.getfield 117, 3) := by decide +kernel
theorem dX5_digest_155 : decode cX5_digest 155 = .ok (.iload_n 3, 1) := by decide +kernel
theorem dX5_digest_156 : decode cX5_digest 156 = .ok (.aaload, 1) := by decide +kernel
theorem dX5_digest_157 : decode cX5_digest 157 = .ok (.iload 4, 2) := by decide +kernel
theorem dX5_digest_159 : decode cX5_digest 159 = .ok (.invokevirtual 152, 3) := by decide +kernel
theorem dX5_digest_162 : decode cX5_digest 162 = .ok (.i2l, 1) := by decide +kernel
theorem dX5_digest_163 : decode cX5_digest 163 = .ok (.ladd, 1) := by decide +kernel
theorem dX5_digest_164 : decode cX5_digest 164 = .ok (.lstore_n 1, 1) := by decide +kernel
theorem dX5_digest_165 : decode cX5_digest 165 = .ok (.iinc 4 1, 3) := by decide +kernel
theorem dX5_digest_168 : decode cX5_digest 168 = .ok (.goto (-31), 3) := by decide +kernel
theorem dX5_digest_171 : decode cX5_digest 171 = .ok (.iinc 3 1, 3) := by decide +kernel
theorem dX5_digest_174 : decode cX5_digest 174 = .ok (.goto (-89), 3) := by decide +kernel
theorem dX5_digest_177 : decode cX5_digest 177 = .ok (.iconst 0, 1) := by decide +kernel
theorem dX5_digest_178 : decode cX5_digest 178 = .ok (.istore_n 3, 1) := by decide +kernel
theorem dX5_digest_179 : decode cX5_digest 179 = .ok (.iload_n 3, 1) := by decide +kernel
theorem dX5_digest_180 : decode cX5_digest 180 = .ok (.aload_n 0, 1) := by decide +kernel
theorem dX5_digest_181 : decode cX5_digest 181 = .ok (.getfield 20, 3) := by decide +kernel
theorem dX5_digest_184 : decode cX5_digest 184 = .ok (.if_icmp .ge 23, 3) := by decide +kernel
theorem dX5_digest_187 : decode cX5_digest 187 = .ok (.lload_n 1, 1) := by decide +kernel
theorem dX5_digest_188 : decode cX5_digest 188 = .ok (.ldc2_w 219, 3) := by decide +kernel
theorem dX5_digest_191 : decode cX5_digest 191 = .ok (.lmul, 1) := by decide +kernel
theorem dX5_digest_192 : decode cX5_digest 192 = .ok (.aload_n 0, 1) := by decide +kernel
theorem dX5_digest_193 : decode cX5_digest 193 = .ok (.getfield 16, 3) := by decide +kernel
theorem dX5_digest_196 : decode cX5_digest 196 = .ok (.iload_n 3, 1) := by decide +kernel
theorem dX5_digest_197 : decode cX5_digest 197 = .ok (.iaload, 1) := by decide +kernel
theorem dX5_digest_198 : decode cX5_digest 198 = .ok (.i2l, 1) := by decide +kernel
theorem dX5_digest_199 : decode cX5_digest 199 = .ok (.ladd, 1) := by decide +kernel
theorem dX5_digest_200 : decode cX5_digest 200 = .ok (.lstore_n 1, 1) := by decide +kernel
theorem dX5_digest_201 : decode cX5_digest 201 = .ok (.iinc 3 1, 3) := by decide +kernel
theorem dX5_digest_204 : decode cX5_digest 204 = .ok (.goto (-25), 3) := by decide +kernel
theorem dX5_digest_207 : decode cX5_digest 207 = .ok (.lload_n 1, 1) := by decide +kernel
theorem dX5_digest_208 : decode cX5_digest 208 = .ok (.lreturn, 1) := by decide +kernel
set_option maxRecDepth 20000 in
theorem ggX5_countOf_X1_teamsLeft : GoodIn wsX5_countOf wsX1_teamsLeft := goodIn_r _ [13, 14, 15, 16, 17, 18, 19, 20, 21, 22, 54, 55, 56, 57, 72, 73, 74, 75, 76, 77, 78, 79, 80, 81, 82, 83, 84, 85, 86, 87] (by decide +kernel) (by decide +kernel)
set_option maxRecDepth 20000 in
theorem gX5_countOf_X1_teamsLeft : GoodIn wsX5_countOf (wsV RX5 193 RX1 yX1_teamsLeft wsX1_teamsLeft) := goodIn_app (goodIn_of _ (by decide +kernel)) ggX5_countOf_X1_teamsLeft
set_option maxRecDepth 20000 in
theorem ggX5_countOf_X0_tunnels : GoodIn wsX5_countOf wsX0_tunnels := goodIn_r _ [27, 28, 58, 59, 60, 61, 62, 63, 64, 65, 66, 67, 68, 69] (by decide +kernel) (by decide +kernel)
set_option maxRecDepth 20000 in
theorem gX5_countOf_X0_tunnels : GoodIn wsX5_countOf (wsV RX5 224 RX0 yX0_tunnels wsX0_tunnels) := goodIn_app (goodIn_of _ (by decide +kernel)) ggX5_countOf_X0_tunnels
set_option maxRecDepth 20000 in
theorem ggX5_countOf_X0_wallsStanding : GoodIn wsX5_countOf wsX0_wallsStanding := goodIn_r _ [32, 33, 58, 59, 60, 61, 62, 63, 64, 65, 66, 67, 68, 69] (by decide +kernel) (by decide +kernel)
set_option maxRecDepth 20000 in
theorem gX5_countOf_X0_wallsStanding : GoodIn wsX5_countOf (wsV RX5 214 RX0 yX0_wallsStanding wsX0_wallsStanding) := goodIn_app (goodIn_of _ (by decide +kernel)) ggX5_countOf_X0_wallsStanding
set_option maxRecDepth 20000 in
theorem ggX5_countOf_X0_wallsFallen : GoodIn wsX5_countOf wsX0_wallsFallen := goodIn_r _ [37, 33, 58, 59, 60, 61, 62, 63, 64, 65, 66, 67, 68, 69] (by decide +kernel) (by decide +kernel)
set_option maxRecDepth 20000 in
theorem gX5_countOf_X0_wallsFallen : GoodIn wsX5_countOf (wsV RX5 211 RX0 yX0_wallsFallen wsX0_wallsFallen) := goodIn_app (goodIn_of _ (by decide +kernel)) ggX5_countOf_X0_wallsFallen
set_option maxRecDepth 20000 in
theorem ggX5_countOf_X0_allSmoke : GoodIn wsX5_countOf wsX0_allSmoke := goodIn_r _ [41, 42, 58, 59, 60, 61, 62, 63, 64, 65, 66, 67, 68, 69] (by decide +kernel) (by decide +kernel)
set_option maxRecDepth 20000 in
theorem gX5_countOf_X0_allSmoke : GoodIn wsX5_countOf (wsV RX5 227 RX0 yX0_allSmoke wsX0_allSmoke) := goodIn_app (goodIn_of _ (by decide +kernel)) ggX5_countOf_X0_allSmoke
set_option maxRecDepth 20000 in
theorem ggX5_countOf_X1_missedOrders : GoodIn wsX5_countOf wsX1_missedOrders := goodIn_r _ [46, 14, 15, 47, 54, 55, 56, 57, 72, 73, 74, 75, 76, 77, 78, 79, 80, 81, 82, 83, 84, 85, 86, 87] (by decide +kernel) (by decide +kernel)
set_option maxRecDepth 20000 in
theorem gX5_countOf_X1_missedOrders : GoodIn wsX5_countOf (wsV RX5 230 RX1 yX1_missedOrders wsX1_missedOrders) := goodIn_app (goodIn_of _ (by decide +kernel)) ggX5_countOf_X1_missedOrders
theorem dX5_countOf_0 : decode cX5_countOf 0 = .ok (.aload_n 0, 1) := by decide +kernel
theorem dX5_countOf_1 : decode cX5_countOf 1 = .ok (.getfield 27, 3) := by decide +kernel
theorem dX5_countOf_4 : decode cX5_countOf 4 = .ok (.getfield 64, 3) := by decide +kernel
theorem dX5_countOf_7 : decode cX5_countOf 7 = .ok (.astore_n 2, 1) := by decide +kernel
theorem dX5_countOf_8 : decode cX5_countOf 8 = .ok (.iload_n 1, 1) := by decide +kernel
theorem dX5_countOf_9 : decode cX5_countOf 9 = .ok (.tableswitch 134 0 10 #[59, 67, 75, 84, 93, 98, 103, 108, 113, 118, 126], 59) := by decide +kernel
theorem dX5_countOf_68 : decode cX5_countOf 68 = .ok (.aload_n 0, 1) := by decide +kernel
theorem dX5_countOf_69 : decode cX5_countOf 69 = .ok (.getfield 27, 3) := by decide +kernel
theorem dX5_countOf_72 : decode cX5_countOf 72 = .ok (.getfield 221, 3) := by decide +kernel
theorem dX5_countOf_75 : decode cX5_countOf 75 = .ok (.ireturn, 1) := by decide +kernel
theorem dX5_countOf_76 : decode cX5_countOf 76 = .ok (.aload_n 0, 1) := by decide +kernel
theorem dX5_countOf_77 : decode cX5_countOf 77 = .ok (.getfield 27, 3) := by decide +kernel
theorem dX5_countOf_80 : decode cX5_countOf 80 = .ok (.getfield 77, 3) := by decide +kernel
theorem dX5_countOf_83 : decode cX5_countOf 83 = .ok (.ireturn, 1) := by decide +kernel
theorem dX5_countOf_84 : decode cX5_countOf 84 = .ok (.aload_n 0, 1) := by decide +kernel
theorem dX5_countOf_85 : decode cX5_countOf 85 = .ok (.getfield 27, 3) := by decide +kernel
theorem dX5_countOf_88 : decode cX5_countOf 88 = .ok (.iconst 0, 1) := by decide +kernel
theorem dX5_countOf_89 : decode cX5_countOf 89 = .ok (.invokevirtual 193, 3) := by decide +kernel
theorem dX5_countOf_92 : decode cX5_countOf 92 = .ok (.ireturn, 1) := by decide +kernel
theorem dX5_countOf_93 : decode cX5_countOf 93 = .ok (.aload_n 0, 1) := by decide +kernel
theorem dX5_countOf_94 : decode cX5_countOf 94 = .ok (.getfield 27, 3) := by decide +kernel
theorem dX5_countOf_97 : decode cX5_countOf 97 = .ok (.iconst 1, 1) := by decide +kernel
theorem dX5_countOf_98 : decode cX5_countOf 98 = .ok (.invokevirtual 193, 3) := by decide +kernel
theorem dX5_countOf_101 : decode cX5_countOf 101 = .ok (.ireturn, 1) := by decide +kernel
theorem dX5_countOf_102 : decode cX5_countOf 102 = .ok (.aload_n 2, 1) := by decide +kernel
theorem dX5_countOf_103 : decode cX5_countOf 103 = .ok (.invokevirtual 224, 3) := by decide +kernel
theorem dX5_countOf_106 : decode cX5_countOf 106 = .ok (.ireturn, 1) := by decide +kernel
theorem dX5_countOf_107 : decode cX5_countOf 107 = .ok (.aload_n 2, 1) := by decide +kernel
theorem dX5_countOf_108 : decode cX5_countOf 108 = .ok (.invokevirtual 214, 3) := by decide +kernel
theorem dX5_countOf_111 : decode cX5_countOf 111 = .ok (.ireturn, 1) := by decide +kernel
theorem dX5_countOf_112 : decode cX5_countOf 112 = .ok (.aload_n 2, 1) := by decide +kernel
theorem dX5_countOf_113 : decode cX5_countOf 113 = .ok (.invokevirtual 211, 3) := by decide +kernel
theorem dX5_countOf_116 : decode cX5_countOf 116 = .ok (.ireturn, 1) := by decide +kernel
theorem dX5_countOf_117 : decode cX5_countOf 117 = .ok (.aload_n 2, 1) := by decide +kernel
theorem dX5_countOf_118 : decode cX5_countOf 118 = .ok (.invokevirtual 227, 3) := by decide +kernel
theorem dX5_countOf_121 : decode cX5_countOf 121 = .ok (.ireturn, 1) := by decide +kernel
theorem dX5_countOf_122 : decode cX5_countOf 122 = .ok (.aload_n 2, 1) := by decide +kernel
theorem dX5_countOf_123 : decode cX5_countOf 123 = .ok (.getfield 196, 3) := by decide +kernel
theorem dX5_countOf_126 : decode cX5_countOf 126 = .ok (.ireturn, 1) := by decide +kernel
theorem dX5_countOf_127 : decode cX5_countOf 127 = .ok (.aload_n 0, 1) := by decide +kernel
theorem dX5_countOf_128 : decode cX5_countOf 128 = .ok (.getfield 27, 3) := by decide +kernel
theorem dX5_countOf_131 : decode cX5_countOf 131 = .ok (.invokevirtual 230, 3) := by decide +kernel
theorem dX5_countOf_134 : decode cX5_countOf 134 = .ok (.ireturn, 1) := by decide +kernel
theorem dX5_countOf_135 : decode cX5_countOf 135 = .ok (.aload_n 0, 1) := by decide +kernel
theorem dX5_countOf_136 : decode cX5_countOf 136 = .ok (.getfield 10, 3) := by decide +kernel
theorem dX5_countOf_139 : decode cX5_countOf 139 = .ok (.getfield 41, 3) := by decide +kernel
theorem dX5_countOf_142 : decode cX5_countOf 142 = .ok (.ireturn, 1) := by decide +kernel
theorem dX5_countOf_143 : decode cX5_countOf 143 = .ok (.aload_n 0, 1) := by decide +kernel
theorem dX5_countOf_144 : decode cX5_countOf 144 = .ok (.getfield 20, 3) := by decide +kernel
theorem dX5_countOf_147 : decode cX5_countOf 147 = .ok (.ireturn, 1) := by decide +kernel
set_option maxRecDepth 20000 in
theorem ggX5_tunnelsAfterDigging_X1_copyFrom : GoodIn wsX5_tunnelsAfterDigging wsX1_copyFrom := goodIn_r _ [10, 11, 12, 13, 14, 15, 16, 17, 18, 19, 20, 21, 22, 23, 24, 25, 26, 27, 28, 29, 30, 31, 32, 33, 34, 35, 36, 37, 38, 39, 40, 41, 42, 43, 44, 45, 46, 47, 48, 49, 50, 51, 52, 53, 54, 55, 262, 263, 264, 265, 282, 283, 284, 285, 286, 287, 288, 289, 290, 291, 292, 293, 266, 267, 268, 269, 270, 271, 272, 273, 274, 275, 276, 277, 278, 279, 280, 281] (by decide +kernel) (by decide +kernel)
set_option maxRecDepth 20000 in
theorem gX5_tunnelsAfterDigging_X1_copyFrom : GoodIn wsX5_tunnelsAfterDigging (wsV RX5 189 RX1 yX1_copyFrom wsX1_copyFrom) := goodIn_app (goodIn_of _ (by decide +kernel)) ggX5_tunnelsAfterDigging_X1_copyFrom
set_option maxRecDepth 20000 in
theorem ggX5_tunnelsAfterDigging_X3_addOrder : GoodIn wsX5_tunnelsAfterDigging wsX3_addOrder := goodIn_r _ [59, 51, 52, 54, 55, 266, 267, 268, 269, 270, 271, 272, 273, 274, 275, 276, 277, 278, 279, 280, 281] (by decide +kernel) (by decide +kernel)
set_option maxRecDepth 20000 in
theorem gX5_tunnelsAfterDigging_X3_addOrder : GoodIn wsX5_tunnelsAfterDigging (wsV RX5 143 RX3 yX3_addOrder wsX3_addOrder) := goodIn_app (goodIn_of _ (by decide +kernel)) ggX5_tunnelsAfterDigging_X3_addOrder
set_option maxRecDepth 20000 in
theorem ggX5_tunnelsAfterDigging_X1_letHoursGoBy : GoodIn wsX5_tunnelsAfterDigging wsX1_letHoursGoBy := goodIn_r _ [63, 11, 13, 64, 65, 66, 9, 67, 12, 14, 68, 69, 70, 71, 72, 73, 74, 75, 37, 76, 44, 45, 46, 47, 77, 78, 79, 80, 41, 81, 82, 83, 84, 85, 86, 87, 88, 89, 40, 90, 91, 92, 93, 94, 95, 96, 97, 98, 99, 100, 101, 102, 103, 104, 105, 106, 107, 108, 109, 110, 111, 112, 18, 113, 26, 114, 115, 116, 117, 118, 119, 120, 121, 122, 51, 52, 123, 124, 125, 126, 127, 128, 129, 130, 131, 132, 54, 133, 134, 135, 136, 20, 137, 138, 139, 140, 43, 141, 142, 143, 144, 55, 145, 146, 147, 148, 30, 149, 150, 151, 152, 153, 154, 155, 156, 27, 28, 29, 31, 157, 158, 159, 160, 161, 162, 163, 164, 165, 166, 167, 168, 169, 170, 171, 172, 173, 174, 175, 176, 177, 178, 179, 180, 181, 182, 183, 184, 185, 186, 187, 188, 189, 190, 191, 192, 193, 194, 195, 196, 197, 198, 199, 200, 201, 202, 203, 204, 205, 206, 207, 208, 209, 210, 48, 49, 50, 211, 212, 213, 214, 215, 21, 22, 23, 24, 216, 217, 218, 219, 220, 221, 222, 223, 224, 225, 226, 227, 228, 229, 230, 231, 232, 233, 234, 235, 236, 237, 238, 239, 240, 241, 32, 25, 33, 242, 243, 244, 245, 246, 247, 248, 249, 250, 251, 262, 263, 264, 265, 266, 267, 268, 269, 270, 271, 272, 273, 274, 275, 276, 277, 278, 279, 280, 281, 282, 283, 284, 285, 286, 287, 288, 289, 290, 291, 292, 293] (by decide +kernel) (by decide +kernel)
set_option maxRecDepth 20000 in
theorem gX5_tunnelsAfterDigging_X1_letHoursGoBy : GoodIn wsX5_tunnelsAfterDigging (wsV RX5 160 RX1 yX1_letHoursGoBy wsX1_letHoursGoBy) := goodIn_app (goodIn_of _ (by decide +kernel)) ggX5_tunnelsAfterDigging_X1_letHoursGoBy
set_option maxRecDepth 20000 in
theorem ggX5_tunnelsAfterDigging_X0_tunnels : GoodIn wsX5_tunnelsAfterDigging wsX0_tunnels := goodIn_r _ [255, 26, 282, 283, 284, 285, 286, 287, 288, 289, 290, 291, 292, 293] (by decide +kernel) (by decide +kernel)
set_option maxRecDepth 20000 in
theorem gX5_tunnelsAfterDigging_X0_tunnels : GoodIn wsX5_tunnelsAfterDigging (wsV RX5 224 RX0 yX0_tunnels wsX0_tunnels) := goodIn_app (goodIn_of _ (by decide +kernel)) ggX5_tunnelsAfterDigging_X0_tunnels
theorem dX5_tunnelsAfterDigging_0 : decode cX5_tunnelsAfterDigging 0 = .ok (.aload_n 0, 1) := by decide +kernel
theorem dX5_tunnelsAfterDigging_1 : decode cX5_tunnelsAfterDigging 1 = .ok (.getfield 31, 3) := by decide +kernel
theorem dX5_tunnelsAfterDigging_4 : decode cX5_tunnelsAfterDigging 4 = .ok (.aload_n 0, 1) := by decide +kernel
theorem dX5_tunnelsAfterDigging_5 : decode cX5_tunnelsAfterDigging 5 = .ok (.getfield 27, 3) := by decide +kernel
theorem dX5_tunnelsAfterDigging_8 : decode cX5_tunnelsAfterDigging 8 = .ok (.invokevirtual 189, 3) := by decide +kernel
theorem dX5_tunnelsAfterDigging_11 : decode cX5_tunnelsAfterDigging 11 = .ok (.aload_n 0, 1) := by decide +kernel
theorem dX5_tunnelsAfterDigging_12 : decode cX5_tunnelsAfterDigging 12 = .ok (.getfield 31, 3) := by decide +kernel
theorem dX5_tunnelsAfterDigging_15 : decode cX5_tunnelsAfterDigging 15 = .ok (.getfield 117, 3) := by decide +kernel
theorem dX5_tunnelsAfterDigging_18 : decode cX5_tunnelsAfterDigging 18 = .ok (.iload_n 1, 1) := by decide +kernel
theorem dX5_tunnelsAfterDigging_19 : decode cX5_tunnelsAfterDigging 19 = .ok (.aaload, 1) := by decide +kernel
theorem dX5_tunnelsAfterDigging_20 : decode cX5_tunnelsAfterDigging 20 = .ok (.iconst 0, 1) := by decide +kernel
theorem dX5_tunnelsAfterDigging_21 : decode cX5_tunnelsAfterDigging 21 = .ok (.putfield 138, 3) := by decide +kernel
theorem dX5_tunnelsAfterDigging_24 : decode cX5_tunnelsAfterDigging 24 = .ok (.aload_n 0, 1) := by decide +kernel
theorem dX5_tunnelsAfterDigging_25 : decode cX5_tunnelsAfterDigging 25 = .ok (.getfield 31, 3) := by decide +kernel
theorem dX5_tunnelsAfterDigging_28 : decode cX5_tunnelsAfterDigging 28 = .ok (.getfield 117, 3) := by decide +kernel
theorem dX5_tunnelsAfterDigging_31 : decode cX5_tunnelsAfterDigging 31 = .ok (.iload_n 1, 1) := by decide +kernel
theorem dX5_tunnelsAfterDigging_32 : decode cX5_tunnelsAfterDigging 32 = .ok (.aaload, 1) := by decide +kernel
theorem dX5_tunnelsAfterDigging_33 : decode cX5_tunnelsAfterDigging 33 = .ok (.iconst 1, 1) := by decide +kernel
theorem dX5_tunnelsAfterDigging_34 : decode cX5_tunnelsAfterDigging 34 = .ok (.iload_n 2, 1) := by decide +kernel
theorem dX5_tunnelsAfterDigging_35 : decode cX5_tunnelsAfterDigging 35 = .ok (.bipush 20, 2) := by decide +kernel
theorem dX5_tunnelsAfterDigging_37 : decode cX5_tunnelsAfterDigging 37 = .ok (.invokevirtual 143, 3) := by decide +kernel
theorem dX5_tunnelsAfterDigging_40 : decode cX5_tunnelsAfterDigging 40 = .ok (.aload_n 0, 1) := by decide +kernel
theorem dX5_tunnelsAfterDigging_41 : decode cX5_tunnelsAfterDigging 41 = .ok (.getfield 31, 3) := by decide +kernel
theorem dX5_tunnelsAfterDigging_44 : decode cX5_tunnelsAfterDigging 44 = .ok (.iload_n 3, 1) := by decide +kernel
theorem dX5_tunnelsAfterDigging_45 : decode cX5_tunnelsAfterDigging 45 = .ok (.invokevirtual 160, 3) := by decide +kernel
theorem dX5_tunnelsAfterDigging_48 : decode cX5_tunnelsAfterDigging 48 = .ok (.aload_n 0, 1) := by decide +kernel
theorem dX5_tunnelsAfterDigging_49 : decode cX5_tunnelsAfterDigging 49 = .ok (.getfield 31, 3) := by decide +kernel
theorem dX5_tunnelsAfterDigging_52 : decode cX5_tunnelsAfterDigging 52 = .ok (.getfield 64, 3) := by decide +kernel
theorem dX5_tunnelsAfterDigging_55 : decode cX5_tunnelsAfterDigging 55 = .ok (.invokevirtual 224, 3) := by decide +kernel
theorem dX5_tunnelsAfterDigging_58 : decode cX5_tunnelsAfterDigging 58 = .ok (.ireturn, 1) := by decide +kernel
set_option maxRecDepth 20000 in
theorem ggX5_signOf_X1_sideAt : GoodIn wsX5_signOf wsX1_sideAt := goodIn_r _ [10, 11, 12, 13, 14, 15, 16, 17, 18, 19, 20, 38, 39, 40, 41, 54, 55, 56, 57, 58, 59, 60, 61, 62, 63, 64, 65, 66, 67, 68, 69] (by decide +kernel) (by decide +kernel)
set_option maxRecDepth 20000 in
theorem gX5_signOf_X1_sideAt : GoodIn wsX5_signOf (wsV RX5 233 RX1 yX1_sideAt wsX1_sideAt) := goodIn_app (goodIn_of _ (by decide +kernel)) ggX5_signOf_X1_sideAt
set_option maxRecDepth 20000 in
theorem ggX5_signOf_X0_isTunnel : GoodIn wsX5_signOf wsX0_isTunnel := goodIn_r _ [25, 26, 42, 43, 44, 45, 46, 47, 48, 49, 50, 51, 52, 53] (by decide +kernel) (by decide +kernel)
set_option maxRecDepth 20000 in
theorem gX5_signOf_X0_isTunnel : GoodIn wsX5_signOf (wsV RX5 97 RX0 yX0_isTunnel wsX0_isTunnel) := goodIn_app (goodIn_of _ (by decide +kernel)) ggX5_signOf_X0_isTunnel
set_option maxRecDepth 20000 in
theorem ggX5_signOf_X0_isRock : GoodIn wsX5_signOf wsX0_isRock := goodIn_r _ [30, 31, 42, 43, 44, 45, 46, 47, 48, 49, 50, 51, 52, 53] (by decide +kernel) (by decide +kernel)
set_option maxRecDepth 20000 in
theorem gX5_signOf_X0_isRock : GoodIn wsX5_signOf (wsV RX5 93 RX0 yX0_isRock wsX0_isRock) := goodIn_app (goodIn_of _ (by decide +kernel)) ggX5_signOf_X0_isRock
theorem dX5_signOf_0 : decode cX5_signOf 0 = .ok (.aload_n 0, 1) := by decide +kernel
theorem dX5_signOf_1 : decode cX5_signOf 1 = .ok (.getfield 27, 3) := by decide +kernel
theorem dX5_signOf_4 : decode cX5_signOf 4 = .ok (.iload_n 1, 1) := by decide +kernel
theorem dX5_signOf_5 : decode cX5_signOf 5 = .ok (.invokevirtual 233, 3) := by decide +kernel
theorem dX5_signOf_8 : decode cX5_signOf 8 = .ok (.istore_n 2, 1) := by decide +kernel
theorem dX5_signOf_9 : decode cX5_signOf 9 = .ok (.iload_n 2, 1) := by decide +kernel
theorem dX5_signOf_10 : decode cX5_signOf 10 = .ok (.ifCond .lt 8, 3) := by decide +kernel
theorem dX5_signOf_13 : decode cX5_signOf 13 = .ok (.bipush 48, 2) := by decide +kernel
theorem dX5_signOf_15 : decode cX5_signOf 15 = .ok (.iload_n 2, 1) := by decide +kernel
theorem dX5_signOf_16 : decode cX5_signOf 16 = .ok (.iadd, 1) := by decide +kernel
theorem dX5_signOf_17 : decode cX5_signOf 17 = .ok (.ireturn, 1) := by decide +kernel
theorem dX5_signOf_18 : decode cX5_signOf 18 = .ok (.aload_n 0, 1) := by decide +kernel
theorem dX5_signOf_19 : decode cX5_signOf 19 = .ok (.getfield 27, 3) := by decide +kernel
theorem dX5_signOf_22 : decode cX5_signOf 22 = .ok (.getfield 64, 3) := by decide +kernel
theorem dX5_signOf_25 : decode cX5_signOf 25 = .ok (.astore_n 3, 1) := by decide +kernel
theorem dX5_signOf_26 : decode cX5_signOf 26 = .ok (.aload_n 3, 1) := by decide +kernel
theorem dX5_signOf_27 : decode cX5_signOf 27 = .ok (.iload_n 1, 1) := by decide +kernel
theorem dX5_signOf_28 : decode cX5_signOf 28 = .ok (.invokevirtual 97, 3) := by decide +kernel
theorem dX5_signOf_31 : decode cX5_signOf 31 = .ok (.istore 4, 2) := by decide +kernel
theorem dX5_signOf_33 : decode cX5_signOf 33 = .ok (.aload_n 3, 1) := by decide +kernel
theorem dX5_signOf_34 : decode cX5_signOf 34 = .ok (.getfield 236, 3) := by decide +kernel
theorem dX5_signOf_37 : decode cX5_signOf 37 = .ok (.iload_n 1, 1) := by decide +kernel
theorem dX5_signOf_38 : decode cX5_signOf 38 = .ok (.iaload, 1) := by decide +kernel
theorem dX5_signOf_39 : decode cX5_signOf 39 = .ok (.ifCond .ne 6, 3) := by decide +kernel
theorem dX5_signOf_42 : decode cX5_signOf 42 = .ok (.bipush 88, 2) := by decide +kernel
theorem dX5_signOf_44 : decode cX5_signOf 44 = .ok (.ireturn, 1) := by decide +kernel
theorem dX5_signOf_45 : decode cX5_signOf 45 = .ok (.aload_n 3, 1) := by decide +kernel
theorem dX5_signOf_46 : decode cX5_signOf 46 = .ok (.getfield 236, 3) := by decide +kernel
theorem dX5_signOf_49 : decode cX5_signOf 49 = .ok (.iload_n 1, 1) := by decide +kernel
theorem dX5_signOf_50 : decode cX5_signOf 50 = .ok (.iaload, 1) := by decide +kernel
theorem dX5_signOf_51 : decode cX5_signOf 51 = .ok (.ifCond .le 16, 3) := by decide +kernel
theorem dX5_signOf_54 : decode cX5_signOf 54 = .ok (.iload 4, 2) := by decide +kernel
theorem dX5_signOf_56 : decode cX5_signOf 56 = .ok (.ifCond .eq 8, 3) := by decide +kernel
theorem dX5_signOf_59 : decode cX5_signOf 59 = .ok (.bipush 119, 2) := by decide +kernel
theorem dX5_signOf_61 : decode cX5_signOf 61 = .ok (.goto 5, 3) := by decide +kernel
theorem dX5_signOf_64 : decode cX5_signOf 64 = .ok (.bipush 87, 2) := by decide +kernel
theorem dX5_signOf_66 : decode cX5_signOf 66 = .ok (.ireturn, 1) := by decide +kernel
theorem dX5_signOf_67 : decode cX5_signOf 67 = .ok (.aload_n 3, 1) := by decide +kernel
theorem dX5_signOf_68 : decode cX5_signOf 68 = .ok (.iload_n 1, 1) := by decide +kernel
theorem dX5_signOf_69 : decode cX5_signOf 69 = .ok (.invokevirtual 93, 3) := by decide +kernel
theorem dX5_signOf_72 : decode cX5_signOf 72 = .ok (.ifCond .eq 6, 3) := by decide +kernel
theorem dX5_signOf_75 : decode cX5_signOf 75 = .ok (.bipush 35, 2) := by decide +kernel
theorem dX5_signOf_77 : decode cX5_signOf 77 = .ok (.ireturn, 1) := by decide +kernel
theorem dX5_signOf_78 : decode cX5_signOf 78 = .ok (.iload 4, 2) := by decide +kernel
theorem dX5_signOf_80 : decode cX5_signOf 80 = .ok (.ifCond .eq 20, 3) := by decide +kernel
theorem dX5_signOf_83 : decode cX5_signOf 83 = .ok (.aload_n 3, 1) := by decide +kernel
theorem dX5_signOf_84 : decode cX5_signOf 84 = .ok (.getfield 239, 3) := by decide +kernel
theorem dX5_signOf_87 : decode cX5_signOf 87 = .ok (.iload_n 1, 1) := by decide +kernel
theorem dX5_signOf_88 : decode cX5_signOf 88 = .ok (.iaload, 1) := by decide +kernel
theorem dX5_signOf_89 : decode cX5_signOf 89 = .ok (.ifCond .le 8, 3) := by decide +kernel
theorem dX5_signOf_92 : decode cX5_signOf 92 = .ok (.bipush 42, 2) := by decide +kernel
theorem dX5_signOf_94 : decode cX5_signOf 94 = .ok (.goto 5, 3) := by decide +kernel
theorem dX5_signOf_97 : decode cX5_signOf 97 = .ok (.bipush 46, 2) := by decide +kernel
theorem dX5_signOf_99 : decode cX5_signOf 99 = .ok (.ireturn, 1) := by decide +kernel
theorem dX5_signOf_100 : decode cX5_signOf 100 = .ok (.bipush 48, 2) := by decide +kernel
theorem dX5_signOf_102 : decode cX5_signOf 102 = .ok (.aload_n 3, 1) := by decide +kernel
theorem dX5_signOf_103 : decode cX5_signOf 103 = .ok (.getfield 105, 3) := by decide +kernel
theorem dX5_signOf_106 : decode cX5_signOf 106 = .ok (.iload_n 1, 1) := by decide +kernel
theorem dX5_signOf_107 : decode cX5_signOf 107 = .ok (.iaload, 1) := by decide +kernel
theorem dX5_signOf_108 : decode cX5_signOf 108 = .ok (.iadd, 1) := by decide +kernel
theorem dX5_signOf_109 : decode cX5_signOf 109 = .ok (.ireturn, 1) := by decide +kernel
theorem dX5_isInside_0 : decode cX5_isInside 0 = .ok (.iload_n 0, 1) := by decide +kernel
theorem dX5_isInside_1 : decode cX5_isInside 1 = .ok (.ifCond .lt 23, 3) := by decide +kernel
theorem dX5_isInside_4 : decode cX5_isInside 4 = .ok (.iload_n 0, 1) := by decide +kernel
theorem dX5_isInside_5 : decode cX5_isInside 5 = .ok (.bipush 12, 2) := by decide +kernel
theorem dX5_isInside_7 : decode cX5_isInside 7 = .ok (.if_icmp .ge 17, 3) := by decide +kernel
theorem dX5_isInside_10 : decode cX5_isInside 10 = .ok (.iload_n 1, 1) := by decide +kernel
theorem dX5_isInside_11 : decode cX5_isInside 11 = .ok (.ifCond .lt 13, 3) := by decide +kernel
theorem dX5_isInside_14 : decode cX5_isInside 14 = .ok (.iload_n 1, 1) := by decide +kernel
theorem dX5_isInside_15 : decode cX5_isInside 15 = .ok (.bipush 12, 2) := by decide +kernel
theorem dX5_isInside_17 : decode cX5_isInside 17 = .ok (.if_icmp .ge 7, 3) := by decide +kernel
theorem dX5_isInside_20 : decode cX5_isInside 20 = .ok (.iconst 1, 1) := by decide +kernel
theorem dX5_isInside_21 : decode cX5_isInside 21 = .ok (.goto 4, 3) := by decide +kernel
theorem dX5_isInside_24 : decode cX5_isInside 24 = .ok (.iconst 0, 1) := by decide +kernel
theorem dX5_isInside_25 : decode cX5_isInside 25 = .ok (.ireturn, 1) := by decide +kernel
theorem dX5_cellAt_0 : decode cX5_cellAt 0 = .ok (.bipush 12, 2) := by decide +kernel
theorem dX5_cellAt_2 : decode cX5_cellAt 2 = .ok (.iload_n 1, 1) := by decide +kernel
theorem dX5_cellAt_3 : decode cX5_cellAt 3 = .ok (.imul, 1) := by decide +kernel
theorem dX5_cellAt_4 : decode cX5_cellAt 4 = .ok (.iload_n 0, 1) := by decide +kernel
theorem dX5_cellAt_5 : decode cX5_cellAt 5 = .ok (.iadd, 1) := by decide +kernel
theorem dX5_cellAt_6 : decode cX5_cellAt 6 = .ok (.ireturn, 1) := by decide +kernel
theorem dX5_neighbour_0 : decode cX5_neighbour 0 = .ok (.iload_n 0, 1) := by decide +kernel
theorem dX5_neighbour_1 : decode cX5_neighbour 1 = .ok (.bipush 12, 2) := by decide +kernel
theorem dX5_neighbour_3 : decode cX5_neighbour 3 = .ok (.irem, 1) := by decide +kernel
theorem dX5_neighbour_4 : decode cX5_neighbour 4 = .ok (.istore_n 2, 1) := by decide +kernel
theorem dX5_neighbour_5 : decode cX5_neighbour 5 = .ok (.iload_n 0, 1) := by decide +kernel
theorem dX5_neighbour_6 : decode cX5_neighbour 6 = .ok (.bipush 12, 2) := by decide +kernel
theorem dX5_neighbour_8 : decode cX5_neighbour 8 = .ok (.idiv, 1) := by decide +kernel
theorem dX5_neighbour_9 : decode cX5_neighbour 9 = .ok (.istore_n 3, 1) := by decide +kernel
theorem dX5_neighbour_10 : decode cX5_neighbour 10 = .ok (.iload_n 1, 1) := by decide +kernel
theorem dX5_neighbour_11 : decode cX5_neighbour 11 = .ok (.tableswitch 67 0 2 #[25, 38, 52], 25) := by decide +kernel
theorem dX5_neighbour_36 : decode cX5_neighbour 36 = .ok (.iload_n 3, 1) := by decide +kernel
theorem dX5_neighbour_37 : decode cX5_neighbour 37 = .ok (.ifCond .le 10, 3) := by decide +kernel
theorem dX5_neighbour_40 : decode cX5_neighbour 40 = .ok (.iload_n 0, 1) := by decide +kernel
theorem dX5_neighbour_41 : decode cX5_neighbour 41 = .ok (.bipush 12, 2) := by decide +kernel
theorem dX5_neighbour_43 : decode cX5_neighbour 43 = .ok (.isub, 1) := by decide +kernel
theorem dX5_neighbour_44 : decode cX5_neighbour 44 = .ok (.goto 4, 3) := by decide +kernel
theorem dX5_neighbour_47 : decode cX5_neighbour 47 = .ok (.iconst (-1), 1) := by decide +kernel
theorem dX5_neighbour_48 : decode cX5_neighbour 48 = .ok (.ireturn, 1) := by decide +kernel
theorem dX5_neighbour_49 : decode cX5_neighbour 49 = .ok (.iload_n 2, 1) := by decide +kernel
theorem dX5_neighbour_50 : decode cX5_neighbour 50 = .ok (.bipush 11, 2) := by decide +kernel
theorem dX5_neighbour_52 : decode cX5_neighbour 52 = .ok (.if_icmp .ge 9, 3) := by decide +kernel
theorem dX5_neighbour_55 : decode cX5_neighbour 55 = .ok (.iload_n 0, 1) := by decide +kernel
theorem dX5_neighbour_56 : decode cX5_neighbour 56 = .ok (.iconst 1, 1) := by decide +kernel
theorem dX5_neighbour_57 : decode cX5_neighbour 57 = .ok (.iadd, 1) := by decide +kernel
theorem dX5_neighbour_58 : decode cX5_neighbour 58 = .ok (.goto 4, 3) := by decide +kernel
theorem dX5_neighbour_61 : decode cX5_neighbour 61 = .ok (.iconst (-1), 1) := by decide +kernel
theorem dX5_neighbour_62 : decode cX5_neighbour 62 = .ok (.ireturn, 1) := by decide +kernel
theorem dX5_neighbour_63 : decode cX5_neighbour 63 = .ok (.iload_n 3, 1) := by decide +kernel
theorem dX5_neighbour_64 : decode cX5_neighbour 64 = .ok (.bipush 11, 2) := by decide +kernel
theorem dX5_neighbour_66 : decode cX5_neighbour 66 = .ok (.if_icmp .ge 10, 3) := by decide +kernel
theorem dX5_neighbour_69 : decode cX5_neighbour 69 = .ok (.iload_n 0, 1) := by decide +kernel
theorem dX5_neighbour_70 : decode cX5_neighbour 70 = .ok (.bipush 12, 2) := by decide +kernel
theorem dX5_neighbour_72 : decode cX5_neighbour 72 = .ok (.iadd, 1) := by decide +kernel
theorem dX5_neighbour_73 : decode cX5_neighbour 73 = .ok (.goto 4, 3) := by decide +kernel
theorem dX5_neighbour_76 : decode cX5_neighbour 76 = .ok (.iconst (-1), 1) := by decide +kernel
theorem dX5_neighbour_77 : decode cX5_neighbour 77 = .ok (.ireturn, 1) := by decide +kernel
theorem dX5_neighbour_78 : decode cX5_neighbour 78 = .ok (.iload_n 2, 1) := by decide +kernel
theorem dX5_neighbour_79 : decode cX5_neighbour 79 = .ok (.ifCond .le 9, 3) := by decide +kernel
theorem dX5_neighbour_82 : decode cX5_neighbour 82 = .ok (.iload_n 0, 1) := by decide +kernel
theorem dX5_neighbour_83 : decode cX5_neighbour 83 = .ok (.iconst 1, 1) := by decide +kernel
theorem dX5_neighbour_84 : decode cX5_neighbour 84 = .ok (.isub, 1) := by decide +kernel
theorem dX5_neighbour_85 : decode cX5_neighbour 85 = .ok (.goto 4, 3) := by decide +kernel
theorem dX5_neighbour_88 : decode cX5_neighbour 88 = .ok (.iconst (-1), 1) := by decide +kernel
theorem dX5_neighbour_89 : decode cX5_neighbour 89 = .ok (.ireturn, 1) := by decide +kernel
theorem dX5_distance_0 : decode cX5_distance 0 = .ok (.iload_n 0, 1) := by decide +kernel
theorem dX5_distance_1 : decode cX5_distance 1 = .ok (.bipush 12, 2) := by decide +kernel
theorem dX5_distance_3 : decode cX5_distance 3 = .ok (.irem, 1) := by decide +kernel
theorem dX5_distance_4 : decode cX5_distance 4 = .ok (.iload_n 1, 1) := by decide +kernel
theorem dX5_distance_5 : decode cX5_distance 5 = .ok (.bipush 12, 2) := by decide +kernel
theorem dX5_distance_7 : decode cX5_distance 7 = .ok (.irem, 1) := by decide +kernel
theorem dX5_distance_8 : decode cX5_distance 8 = .ok (.isub, 1) := by decide +kernel
theorem dX5_distance_9 : decode cX5_distance 9 = .ok (.invokestatic 242, 3) := by decide +kernel
theorem dX5_distance_12 : decode cX5_distance 12 = .ok (.iload_n 0, 1) := by decide +kernel
theorem dX5_distance_13 : decode cX5_distance 13 = .ok (.bipush 12, 2) := by decide +kernel
theorem dX5_distance_15 : decode cX5_distance 15 = .ok (.idiv, 1) := by decide +kernel
theorem dX5_distance_16 : decode cX5_distance 16 = .ok (.iload_n 1, 1) := by decide +kernel
theorem dX5_distance_17 : decode cX5_distance 17 = .ok (.bipush 12, 2) := by decide +kernel
theorem dX5_distance_19 : decode cX5_distance 19 = .ok (.idiv, 1) := by decide +kernel
theorem dX5_distance_20 : decode cX5_distance 20 = .ok (.isub, 1) := by decide +kernel
theorem dX5_distance_21 : decode cX5_distance 21 = .ok (.invokestatic 242, 3) := by decide +kernel
theorem dX5_distance_24 : decode cX5_distance 24 = .ok (.iadd, 1) := by decide +kernel
theorem dX5_distance_25 : decode cX5_distance 25 = .ok (.ireturn, 1) := by decide +kernel
