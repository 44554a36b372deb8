set_option maxRecDepth 100000 in
theorem ggX7_pass_X7_isIn : GoodIn wsX7_pass wsX7_isIn := goodIn_r _ [6] rfl (by decide +kernel)
set_option maxRecDepth 100000 in
theorem gX7_pass_X7_isIn : GoodIn wsX7_pass (va_wsS RX7 52 yX7_isIn wsX7_isIn) := goodIn_app (goodIn_of _ (by decide +kernel)) ggX7_pass_X7_isIn
set_option maxRecDepth 100000 in
theorem ggX7_pass_X7_hours : GoodIn wsX7_pass wsX7_hours := goodIn_r _ [10, 11, 12, 13, 5, 14, 15, 16, 17, 18, 19, 20, 21, 22, 23, 24, 25, 26, 27, 28, 29, 30, 31, 32, 33, 34, 35, 36, 37, 38, 39, 40, 41, 42, 43, 44, 45, 46, 47, 48, 49, 50, 51, 52, 53, 54, 55, 56, 57, 58, 59, 60, 3, 4, 6, 61, 62, 63, 64, 65, 66, 67, 68, 69, 70, 71, 72, 73, 74, 75, 76, 77, 78, 79, 80, 81, 82, 83, 84, 85, 86, 87, 88, 89, 90, 91, 92, 93, 94, 95, 96, 97, 98, 99, 100, 101, 102, 103, 104, 105, 106, 107, 108, 109, 110, 111, 112, 113, 114, 115, 120, 121, 122, 123, 124, 125, 126, 127, 128, 129, 130, 131, 132, 133, 134, 135, 136, 137, 138] rfl (by decide +kernel)
set_option maxRecDepth 100000 in
theorem gX7_pass_X7_hours : GoodIn wsX7_pass (wsV RX7 200 RX7 yX7_hours wsX7_hours) := goodIn_app (goodIn_of _ (by decide +kernel)) ggX7_pass_X7_hours
set_option maxRecDepth 100000 in
theorem ggX7_pass_X7_no : GoodIn wsX7_pass wsX7_no := goodIn_r _ [119, 1, 120, 121, 122, 123, 124, 125, 126, 127, 128, 129, 130, 131, 132, 133] rfl (by decide +kernel)
set_option maxRecDepth 100000 in
theorem gX7_pass_X7_no : GoodIn wsX7_pass (wsV RX7 72 RX7 yX7_no wsX7_no) := goodIn_app (goodIn_of _ (by decide +kernel)) ggX7_pass_X7_no
theorem dX7_pass_0 : decode cX7_pass 0 = .ok (.aload_n 0, 1) := by decide +kernel
theorem dX7_pass_1 : decode cX7_pass 1 = .ok (.iconst 0, 1) := by decide +kernel
theorem dX7_pass_2 : decode cX7_pass 2 = .ok (.putfield 48, 3) := by decide +kernel
theorem dX7_pass_5 : decode cX7_pass 5 = .ok (.iload_n 1, 1) := by decide +kernel
theorem dX7_pass_6 : decode cX7_pass 6 = .ok (.iconst 1, 1) := by decide +kernel
theorem dX7_pass_7 : decode cX7_pass 7 = .ok (.sipush 200, 3) := by decide +kernel
theorem dX7_pass_10 : decode cX7_pass 10 = .ok (.invokestatic 52, 3) := by decide +kernel
theorem dX7_pass_13 : decode cX7_pass 13 = .ok (.ifCond .eq 15, 3) := by decide +kernel
theorem dX7_pass_16 : decode cX7_pass 16 = .ok (.aload_n 0, 1) := by decide +kernel
theorem dX7_pass_17 : decode cX7_pass 17 = .ok (.aload_n 0, 1) := by decide +kernel
theorem dX7_pass_18 : decode cX7_pass 18 = .ok (.getfield 38, 3) := by decide +kernel
theorem dX7_pass_21 : decode cX7_pass 21 = .ok (.iload_n 1, 1) := by decide +kernel
theorem dX7_pass_22 : decode cX7_pass 22 = .ok (.invokevirtual 200, 3) := by decide +kernel
theorem dX7_pass_25 : decode cX7_pass 25 = .ok (.goto 8, 3) := by decide +kernel
theorem dX7_pass_28 : decode cX7_pass 28 = .ok (.aload_n 0, 1) := by decide +kernel
theorem dX7_pass_29 : decode cX7_pass 29 = .ok (.iconst 1, 1) := by decide +kernel
theorem dX7_pass_30 : decode cX7_pass 30 = .ok (.invokevirtual 72, 3) := by decide +kernel
theorem dX7_pass_33 : decode cX7_pass 33 = .ok (.ireturn, 1) := by decide +kernel
theorem dX7_standing_0 : decode cX7_standing 0 = .ok (.iconst 0, 1) := by decide +kernel
theorem dX7_standing_1 : decode cX7_standing 1 = .ok (.istore_n 3, 1) := by decide +kernel
theorem dX7_standing_2 : decode cX7_standing 2 = .ok (.iconst 0, 1) := by decide +kernel
theorem dX7_standing_3 : decode cX7_standing 3 = .ok (.istore 4, 2) := by decide +kernel
theorem dX7_standing_5 : decode cX7_standing 5 = .ok (.iload 4, 2) := by decide +kernel
theorem dX7_standing_7 : decode cX7_standing 7 = .ok (.aload_n 0, 1) := by decide +kernel
theorem dX7_standing_8 : decode cX7_standing 8 = .ok (.getfield 56, 3) := by decide +kernel
theorem dX7_standing_11 : decode cX7_standing 11 = .ok (.if_icmp .ge 40, 3) := by decide +kernel
theorem dX7_standing_14 : decode cX7_standing 14 = .ok (.iload_n 3, 1) := by decide +kernel
theorem dX7_standing_15 : decode cX7_standing 15 = .ok (.aload_n 1, 1) := by decide +kernel
theorem dX7_standing_16 : decode cX7_standing 16 = .ok (.getfield 98, 3) := by decide +kernel
theorem dX7_standing_19 : decode cX7_standing 19 = .ok (.bipush 10, 2) := by decide +kernel
theorem dX7_standing_21 : decode cX7_standing 21 = .ok (.iload 4, 2) := by decide +kernel
theorem dX7_standing_23 : decode cX7_standing 23 = .ok (.imul, 1) := by decide +kernel
theorem dX7_standing_24 : decode cX7_standing 24 = .ok (.iaload, 1) := by decide +kernel
theorem dX7_standing_25 : decode cX7_standing 25 = .ok (.iload_n 2, 1) := by decide +kernel
theorem dX7_standing_26 : decode cX7_standing 26 = .ok (.if_icmp .ne 16, 3) := by decide +kernel
theorem dX7_standing_29 : decode cX7_standing 29 = .ok (.aload_n 1, 1) := by decide +kernel
theorem dX7_standing_30 : decode cX7_standing 30 = .ok (.iload 4, 2) := by decide +kernel
theorem dX7_standing_32 : decode cX7_standing 32 = .ok (.invokevirtual 113, 3) := by decide +kernel
theorem dX7_standing_35 : decode cX7_standing 35 = .ok (.ifCond .ne 7, 3) := by decide +kernel
theorem dX7_standing_38 : decode cX7_standing 38 = .ok (.iconst 1, 1) := by decide +kernel
theorem dX7_standing_39 : decode cX7_standing 39 = .ok (.goto 4, 3) := by decide +kernel
theorem dX7_standing_42 : decode cX7_standing 42 = .ok (.iconst 0, 1) := by decide +kernel
theorem dX7_standing_43 : decode cX7_standing 43 = .ok (.iadd, 1) := by decide +kernel
theorem dX7_standing_44 : decode cX7_standing 44 = .ok (.istore_n 3, 1) := by decide +kernel
theorem dX7_standing_45 : decode cX7_standing 45 = .ok (.iinc 4 1, 3) := by decide +kernel
theorem dX7_standing_48 : decode cX7_standing 48 = .ok (.goto (-43), 3) := by decide +kernel
theorem dX7_standing_51 : decode cX7_standing 51 = .ok (.iload_n 3, 1) := by decide +kernel
theorem dX7_standing_52 : decode cX7_standing 52 = .ok (.ireturn, 1) := by decide +kernel
theorem dX7_tunnels_0 : decode cX7_tunnels 0 = .ok (.iconst 0, 1) := by decide +kernel
theorem dX7_tunnels_1 : decode cX7_tunnels 1 = .ok (.istore_n 1, 1) := by decide +kernel
theorem dX7_tunnels_2 : decode cX7_tunnels 2 = .ok (.iconst 0, 1) := by decide +kernel
theorem dX7_tunnels_3 : decode cX7_tunnels 3 = .ok (.istore_n 2, 1) := by decide +kernel
theorem dX7_tunnels_4 : decode cX7_tunnels 4 = .ok (.iload_n 2, 1) := by decide +kernel
theorem dX7_tunnels_5 : decode cX7_tunnels 5 = .ok (.sipush 144, 3) := by decide +kernel
theorem dX7_tunnels_8 : decode cX7_tunnels 8 = .ok (.if_icmp .ge 23, 3) := by decide +kernel
theorem dX7_tunnels_11 : decode cX7_tunnels 11 = .ok (.iload_n 1, 1) := by decide +kernel
theorem dX7_tunnels_12 : decode cX7_tunnels 12 = .ok (.aload_n 0, 1) := by decide +kernel
theorem dX7_tunnels_13 : decode cX7_tunnels 13 = .ok (.getfield 45, 3) := by decide +kernel
theorem dX7_tunnels_16 : decode cX7_tunnels 16 = .ok (.bipush 8, 2) := by decide +kernel
theorem dX7_tunnels_18 : decode cX7_tunnels 18 = .ok (.iload_n 2, 1) := by decide +kernel
theorem dX7_tunnels_19 : decode cX7_tunnels 19 = .ok (.imul, 1) := by decide +kernel
theorem dX7_tunnels_20 : decode cX7_tunnels 20 = .ok (.iconst 2, 1) := by decide +kernel
theorem dX7_tunnels_21 : decode cX7_tunnels 21 = .ok (.iadd, 1) := by decide +kernel
theorem dX7_tunnels_22 : decode cX7_tunnels 22 = .ok (.iaload, 1) := by decide +kernel
theorem dX7_tunnels_23 : decode cX7_tunnels 23 = .ok (.iadd, 1) := by decide +kernel
theorem dX7_tunnels_24 : decode cX7_tunnels 24 = .ok (.istore_n 1, 1) := by decide +kernel
theorem dX7_tunnels_25 : decode cX7_tunnels 25 = .ok (.iinc 2 1, 3) := by decide +kernel
theorem dX7_tunnels_28 : decode cX7_tunnels 28 = .ok (.goto (-24), 3) := by decide +kernel
theorem dX7_tunnels_31 : decode cX7_tunnels 31 = .ok (.iload_n 1, 1) := by decide +kernel
theorem dX7_tunnels_32 : decode cX7_tunnels 32 = .ok (.ireturn, 1) := by decide +kernel
set_option maxRecDepth 100000 in
theorem ggX7_counted_X7_standing : GoodIn wsX7_counted wsX7_standing := goodIn_r _ [10, 2, 11, 12, 13, 14, 15, 16, 20, 21, 22, 23, 24, 25, 26, 27, 28, 29, 30, 31, 32, 33, 34, 35, 36, 37, 38] rfl (by decide +kernel)
set_option maxRecDepth 100000 in
theorem gX7_counted_X7_standing : GoodIn wsX7_counted (wsV RX7 202 RX7 yX7_standing wsX7_standing) := goodIn_app (goodIn_of _ (by decide +kernel)) ggX7_counted_X7_standing
set_option maxRecDepth 100000 in
theorem ggX7_counted_X7_tunnels : GoodIn wsX7_counted wsX7_tunnels := goodIn_r _ [19, 34, 35, 36, 37, 38] rfl (by decide +kernel)
set_option maxRecDepth 100000 in
theorem gX7_counted_X7_tunnels : GoodIn wsX7_counted (va_wsS RX7 205 yX7_tunnels wsX7_tunnels) := goodIn_app (goodIn_of _ (by decide +kernel)) ggX7_counted_X7_tunnels
theorem dX7_counted_0 : decode cX7_counted 0 = .ok (.iconst 0, 1) := by decide +kernel
theorem dX7_counted_1 : decode cX7_counted 1 = .ok (.istore_n 2, 1) := by decide +kernel
theorem dX7_counted_2 : decode cX7_counted 2 = .ok (.iconst 0, 1) := by decide +kernel
theorem dX7_counted_3 : decode cX7_counted 3 = .ok (.istore_n 3, 1) := by decide +kernel
theorem dX7_counted_4 : decode cX7_counted 4 = .ok (.iconst 0, 1) := by decide +kernel
theorem dX7_counted_5 : decode cX7_counted 5 = .ok (.istore 4, 2) := by decide +kernel
theorem dX7_counted_7 : decode cX7_counted 7 = .ok (.iconst 0, 1) := by decide +kernel
theorem dX7_counted_8 : decode cX7_counted 8 = .ok (.istore 5, 2) := by decide +kernel
theorem dX7_counted_10 : decode cX7_counted 10 = .ok (.iconst 0, 1) := by decide +kernel
theorem dX7_counted_11 : decode cX7_counted 11 = .ok (.istore 6, 2) := by decide +kernel
theorem dX7_counted_13 : decode cX7_counted 13 = .ok (.iload 6, 2) := by decide +kernel
theorem dX7_counted_15 : decode cX7_counted 15 = .ok (.sipush 144, 3) := by decide +kernel
theorem dX7_counted_18 : decode cX7_counted 18 = .ok (.if_icmp .ge 81, 3) := by decide +kernel
theorem dX7_counted_21 : decode cX7_counted 21 = .ok (.iload_n 2, 1) := by decide +kernel
theorem dX7_counted_22 : decode cX7_counted 22 = .ok (.aload_n 0, 1) := by decide +kernel
theorem dX7_counted_23 : decode cX7_counted 23 = .ok (.getfield 38, 3) := by decide +kernel
theorem dX7_counted_26 : decode cX7_counted 26 = .ok (.getfield 45, 3) := by decide +kernel
theorem dX7_counted_29 : decode cX7_counted 29 = .ok (.bipush 8, 2) := by decide +kernel
theorem dX7_counted_31 : decode cX7_counted 31 = .ok (.iload 6, 2) := by decide +kernel
theorem dX7_counted_33 : decode cX7_counted 33 = .ok (.imul, 1) := by decide +kernel
theorem dX7_counted_34 : decode cX7_counted 34 = .ok (.iconst 1, 1) := by decide +kernel
theorem dX7_counted_35 : decode cX7_counted 35 = .ok (.iadd, 1) := by decide +kernel
theorem dX7_counted_36 : decode cX7_counted 36 = .ok (.iaload, 1) := by decide +kernel
theorem dX7_counted_37 : decode cX7_counted 37 = .ok (.ifCond .le 7, 3) := by decide +kernel
theorem dX7_counted_40 : decode cX7_counted 40 = .ok (.iconst 1, 1) := by decide +kernel
theorem dX7_counted_41 : decode cX7_counted 41 = .ok (.goto 4, 3) := by decide +kernel
theorem dX7_counted_44 : decode cX7_counted 44 = .ok (.iconst 0, 1) := by decide +kernel
theorem dX7_counted_45 : decode cX7_counted 45 = .ok (.iadd, 1) := by decide +kernel
theorem dX7_counted_46 : decode cX7_counted 46 = .ok (.istore_n 2, 1) := by decide +kernel
theorem dX7_counted_47 : decode cX7_counted 47 = .ok (.iload_n 3, 1) := by decide +kernel
theorem dX7_counted_48 : decode cX7_counted 48 = .ok (.aload_n 0, 1) := by decide +kernel
theorem dX7_counted_49 : decode cX7_counted 49 = .ok (.getfield 38, 3) := by decide +kernel
theorem dX7_counted_52 : decode cX7_counted 52 = .ok (.getfield 45, 3) := by decide +kernel
theorem dX7_counted_55 : decode cX7_counted 55 = .ok (.bipush 8, 2) := by decide +kernel
theorem dX7_counted_57 : decode cX7_counted 57 = .ok (.iload 6, 2) := by decide +kernel
theorem dX7_counted_59 : decode cX7_counted 59 = .ok (.imul, 1) := by decide +kernel
theorem dX7_counted_60 : decode cX7_counted 60 = .ok (.iconst 1, 1) := by decide +kernel
theorem dX7_counted_61 : decode cX7_counted 61 = .ok (.iadd, 1) := by decide +kernel
theorem dX7_counted_62 : decode cX7_counted 62 = .ok (.iaload, 1) := by decide +kernel
theorem dX7_counted_63 : decode cX7_counted 63 = .ok (.ifCond .ne 7, 3) := by decide +kernel
theorem dX7_counted_66 : decode cX7_counted 66 = .ok (.iconst 1, 1) := by decide +kernel
theorem dX7_counted_67 : decode cX7_counted 67 = .ok (.goto 4, 3) := by decide +kernel
theorem dX7_counted_70 : decode cX7_counted 70 = .ok (.iconst 0, 1) := by decide +kernel
theorem dX7_counted_71 : decode cX7_counted 71 = .ok (.iadd, 1) := by decide +kernel
theorem dX7_counted_72 : decode cX7_counted 72 = .ok (.istore_n 3, 1) := by decide +kernel
theorem dX7_counted_73 : decode cX7_counted 73 = .ok (.iload 4, 2) := by decide +kernel
theorem dX7_counted_75 : decode cX7_counted 75 = .ok (.aload_n 0, 1) := by decide +kernel
theorem dX7_counted_76 : decode cX7_counted 76 = .ok (.getfield 38, 3) := by decide +kernel
theorem dX7_counted_79 : decode cX7_counted 79 = .ok (.getfield 45, 3) := by decide +kernel
theorem dX7_counted_82 : decode cX7_counted 82 = .ok (.bipush 8, 2) := by decide +kernel
theorem dX7_counted_84 : decode cX7_counted 84 = .ok (.iload 6, 2) := by decide +kernel
theorem dX7_counted_86 : decode cX7_counted 86 = .ok (.imul, 1) := by decide +kernel
theorem dX7_counted_87 : decode cX7_counted 87 = .ok (.iconst 5, 1) := by decide +kernel
theorem dX7_counted_88 : decode cX7_counted 88 = .ok (.iadd, 1) := by decide +kernel
theorem dX7_counted_89 : decode cX7_counted 89 = .ok (.iaload, 1) := by decide +kernel
theorem dX7_counted_90 : decode cX7_counted 90 = .ok (.iadd, 1) := by decide +kernel
theorem dX7_counted_91 : decode cX7_counted 91 = .ok (.istore 4, 2) := by decide +kernel
theorem dX7_counted_93 : decode cX7_counted 93 = .ok (.iinc 6 1, 3) := by decide +kernel
theorem dX7_counted_96 : decode cX7_counted 96 = .ok (.goto (-83), 3) := by decide +kernel
theorem dX7_counted_99 : decode cX7_counted 99 = .ok (.iconst 0, 1) := by decide +kernel
theorem dX7_counted_100 : decode cX7_counted 100 = .ok (.istore 6, 2) := by decide +kernel
theorem dX7_counted_102 : decode cX7_counted 102 = .ok (.iload 6, 2) := by decide +kernel
theorem dX7_counted_104 : decode cX7_counted 104 = .ok (.aload_n 0, 1) := by decide +kernel
theorem dX7_counted_105 : decode cX7_counted 105 = .ok (.getfield 56, 3) := by decide +kernel
theorem dX7_counted_108 : decode cX7_counted 108 = .ok (.if_icmp .ge 29, 3) := by decide +kernel
theorem dX7_counted_111 : decode cX7_counted 111 = .ok (.iload 5, 2) := by decide +kernel
theorem dX7_counted_113 : decode cX7_counted 113 = .ok (.aload_n 0, 1) := by decide +kernel
theorem dX7_counted_114 : decode cX7_counted 114 = .ok (.getfield 38, 3) := by decide +kernel
theorem dX7_counted_117 : decode cX7_counted 117 = .ok (.getfield 98, 3) := by decide +kernel
theorem dX7_counted_120 : decode cX7_counted 120 = .ok (.bipush 10, 2) := by decide +kernel
theorem dX7_counted_122 : decode cX7_counted 122 = .ok (.iload 6, 2) := by decide +kernel
theorem dX7_counted_124 : decode cX7_counted 124 = .ok (.imul, 1) := by decide +kernel
theorem dX7_counted_125 : decode cX7_counted 125 = .ok (.iconst 5, 1) := by decide +kernel
theorem dX7_counted_126 : decode cX7_counted 126 = .ok (.iadd, 1) := by decide +kernel
theorem dX7_counted_127 : decode cX7_counted 127 = .ok (.iaload, 1) := by decide +kernel
theorem dX7_counted_128 : decode cX7_counted 128 = .ok (.iadd, 1) := by decide +kernel
theorem dX7_counted_129 : decode cX7_counted 129 = .ok (.istore 5, 2) := by decide +kernel
theorem dX7_counted_131 : decode cX7_counted 131 = .ok (.iinc 6 1, 3) := by decide +kernel
theorem dX7_counted_134 : decode cX7_counted 134 = .ok (.goto (-32), 3) := by decide +kernel
theorem dX7_counted_137 : decode cX7_counted 137 = .ok (.bipush 12, 2) := by decide +kernel
theorem dX7_counted_139 : decode cX7_counted 139 = .ok (.newarray .int, 2) := by decide +kernel
theorem dX7_counted_141 : decode cX7_counted 141 = .ok (.dup, 1) := by decide +kernel
theorem dX7_counted_142 : decode cX7_counted 142 = .ok (.iconst 0, 1) := by decide +kernel
theorem dX7_counted_143 : decode cX7_counted 143 = .ok (.aload_n 0, 1) := by decide +kernel
theorem dX7_counted_144 : decode cX7_counted 144 = .ok (.getfield 38, 3) := by decide +kernel
theorem dX7_counted_147 : decode cX7_counted 147 = .ok (.getfield 171, 3) := by decide +kernel
theorem dX7_counted_150 : decode cX7_counted 150 = .ok (.iastore, 1) := by decide +kernel
theorem dX7_counted_151 : decode cX7_counted 151 = .ok (.dup, 1) := by decide +kernel
theorem dX7_counted_152 : decode cX7_counted 152 = .ok (.iconst 1, 1) := by decide +kernel
theorem dX7_counted_153 : decode cX7_counted 153 = .ok (.aload_n 0, 1) := by decide +kernel
theorem dX7_counted_154 : decode cX7_counted 154 = .ok (.getfield 56, 3) := by decide +kernel
theorem dX7_counted_157 : decode cX7_counted 157 = .ok (.iastore, 1) := by decide +kernel
theorem dX7_counted_158 : decode cX7_counted 158 = .ok (.dup, 1) := by decide +kernel
theorem dX7_counted_159 : decode cX7_counted 159 = .ok (.iconst 2, 1) := by decide +kernel
theorem dX7_counted_160 : decode cX7_counted 160 = .ok (.aload_n 0, 1) := by decide +kernel
theorem dX7_counted_161 : decode cX7_counted 161 = .ok (.aload_n 0, 1) := by decide +kernel
theorem dX7_counted_162 : decode cX7_counted 162 = .ok (.getfield 38, 3) := by decide +kernel
theorem dX7_counted_165 : decode cX7_counted 165 = .ok (.iconst 0, 1) := by decide +kernel
theorem dX7_counted_166 : decode cX7_counted 166 = .ok (.invokevirtual 202, 3) := by decide +kernel
theorem dX7_counted_169 : decode cX7_counted 169 = .ok (.iastore, 1) := by decide +kernel
theorem dX7_counted_170 : decode cX7_counted 170 = .ok (.dup, 1) := by decide +kernel
theorem dX7_counted_171 : decode cX7_counted 171 = .ok (.iconst 3, 1) := by decide +kernel
theorem dX7_counted_172 : decode cX7_counted 172 = .ok (.aload_n 0, 1) := by decide +kernel
theorem dX7_counted_173 : decode cX7_counted 173 = .ok (.aload_n 0, 1) := by decide +kernel
theorem dX7_counted_174 : decode cX7_counted 174 = .ok (.getfield 38, 3) := by decide +kernel
theorem dX7_counted_177 : decode cX7_counted 177 = .ok (.iconst 1, 1) := by decide +kernel
theorem dX7_counted_178 : decode cX7_counted 178 = .ok (.invokevirtual 202, 3) := by decide +kernel
theorem dX7_counted_181 : decode cX7_counted 181 = .ok (.iastore, 1) := by decide +kernel
theorem dX7_counted_182 : decode cX7_counted 182 = .ok (.dup, 1) := by decide +kernel
theorem dX7_counted_183 : decode cX7_counted 183 = .ok (.iconst 4, 1) := by decide +kernel
theorem dX7_counted_184 : decode cX7_counted 184 = .ok (.aload_n 0, 1) := by decide +kernel
theorem dX7_counted_185 : decode cX7_counted 185 = .ok (.getfield 38, 3) := by decide +kernel
theorem dX7_counted_188 : decode cX7_counted 188 = .ok (.invokestatic 205, 3) := by decide +kernel
theorem dX7_counted_191 : decode cX7_counted 191 = .ok (.iastore, 1) := by decide +kernel
theorem dX7_counted_192 : decode cX7_counted 192 = .ok (.dup, 1) := by decide +kernel
theorem dX7_counted_193 : decode cX7_counted 193 = .ok (.iconst 5, 1) := by decide +kernel
theorem dX7_counted_194 : decode cX7_counted 194 = .ok (.iload_n 2, 1) := by decide +kernel
theorem dX7_counted_195 : decode cX7_counted 195 = .ok (.iastore, 1) := by decide +kernel
theorem dX7_counted_196 : decode cX7_counted 196 = .ok (.dup, 1) := by decide +kernel
theorem dX7_counted_197 : decode cX7_counted 197 = .ok (.bipush 6, 2) := by decide +kernel
theorem dX7_counted_199 : decode cX7_counted 199 = .ok (.iload_n 3, 1) := by decide +kernel
theorem dX7_counted_200 : decode cX7_counted 200 = .ok (.iastore, 1) := by decide +kernel
theorem dX7_counted_201 : decode cX7_counted 201 = .ok (.dup, 1) := by decide +kernel
theorem dX7_counted_202 : decode cX7_counted 202 = .ok (.bipush 7, 2) := by decide +kernel
theorem dX7_counted_204 : decode cX7_counted 204 = .ok (.iload 4, 2) := by decide +kernel
theorem dX7_counted_206 : decode cX7_counted 206 = .ok (.iastore, 1) := by decide +kernel
theorem dX7_counted_207 : decode cX7_counted 207 = .ok (.dup, 1) := by decide +kernel
theorem dX7_counted_208 : decode cX7_counted 208 = .ok (.bipush 8, 2) := by decide +kernel
theorem dX7_counted_210 : decode cX7_counted 210 = .ok (.aload_n 0, 1) := by decide +kernel
theorem dX7_counted_211 : decode cX7_counted 211 = .ok (.getfield 38, 3) := by decide +kernel
theorem dX7_counted_214 : decode cX7_counted 214 = .ok (.getfield 174, 3) := by decide +kernel
theorem dX7_counted_217 : decode cX7_counted 217 = .ok (.iastore, 1) := by decide +kernel
theorem dX7_counted_218 : decode cX7_counted 218 = .ok (.dup, 1) := by decide +kernel
theorem dX7_counted_219 : decode cX7_counted 219 = .ok (.bipush 9, 2) := by decide +kernel
theorem dX7_counted_221 : decode cX7_counted 221 = .ok (.iload 5, 2) := by decide +kernel
theorem dX7_counted_223 : decode cX7_counted 223 = .ok (.iastore, 1) := by decide +kernel
theorem dX7_counted_224 : decode cX7_counted 224 = .ok (.dup, 1) := by decide +kernel
theorem dX7_counted_225 : decode cX7_counted 225 = .ok (.bipush 10, 2) := by decide +kernel
theorem dX7_counted_227 : decode cX7_counted 227 = .ok (.aload_n 0, 1) := by decide +kernel
theorem dX7_counted_228 : decode cX7_counted 228 = .ok (.getfield 69, 3) := by decide +kernel
theorem dX7_counted_231 : decode cX7_counted 231 = .ok (.iastore, 1) := by decide +kernel
theorem dX7_counted_232 : decode cX7_counted 232 = .ok (.dup, 1) := by decide +kernel
theorem dX7_counted_233 : decode cX7_counted 233 = .ok (.bipush 11, 2) := by decide +kernel
theorem dX7_counted_235 : decode cX7_counted 235 = .ok (.aload_n 0, 1) := by decide +kernel
theorem dX7_counted_236 : decode cX7_counted 236 = .ok (.getfield 208, 3) := by decide +kernel
theorem dX7_counted_239 : decode cX7_counted 239 = .ok (.iastore, 1) := by decide +kernel
theorem dX7_counted_240 : decode cX7_counted 240 = .ok (.astore 6, 2) := by decide +kernel
theorem dX7_counted_242 : decode cX7_counted 242 = .ok (.aload 6, 2) := by decide +kernel
theorem dX7_counted_244 : decode cX7_counted 244 = .ok (.iload_n 1, 1) := by decide +kernel
theorem dX7_counted_245 : decode cX7_counted 245 = .ok (.iaload, 1) := by decide +kernel
theorem dX7_counted_246 : decode cX7_counted 246 = .ok (.ireturn, 1) := by decide +kernel
set_option maxRecDepth 100000 in
theorem ggX7_count_X7_isIn : GoodIn wsX7_count wsX7_isIn := goodIn_r _ [5] rfl (by decide +kernel)
set_option maxRecDepth 100000 in
theorem gX7_count_X7_isIn : GoodIn wsX7_count (va_wsS RX7 52 yX7_isIn wsX7_isIn) := goodIn_app (goodIn_of _ (by decide +kernel)) ggX7_count_X7_isIn
set_option maxRecDepth 100000 in
theorem ggX7_count_X7_counted : GoodIn wsX7_count wsX7_counted := goodIn_r _ [9, 10, 11, 12, 13, 14, 15, 16, 17, 4, 18, 19, 20, 21, 22, 23, 24, 25, 26, 27, 32, 33, 34, 35, 36, 37, 38, 39, 40, 41, 42, 43, 44, 45, 46, 47, 48, 49, 50] rfl (by decide +kernel)
set_option maxRecDepth 100000 in
theorem gX7_count_X7_counted : GoodIn wsX7_count (wsV RX7 211 RX7 yX7_counted wsX7_counted) := goodIn_app (goodIn_of _ (by decide +kernel)) ggX7_count_X7_counted
set_option maxRecDepth 100000 in
theorem ggX7_count_X7_no : GoodIn wsX7_count wsX7_no := goodIn_r _ [31, 1, 32, 33, 34, 35, 36, 37, 38, 39, 40, 41, 42, 43, 44, 45] rfl (by decide +kernel)
set_option maxRecDepth 100000 in
theorem gX7_count_X7_no : GoodIn wsX7_count (wsV RX7 72 RX7 yX7_no wsX7_no) := goodIn_app (goodIn_of _ (by decide +kernel)) ggX7_count_X7_no
theorem dX7_count_0 : decode cX7_count 0 = .ok (.aload_n 0, 1) := by decide +kernel
theorem dX7_count_1 : decode cX7_count 1 = .ok (.iconst 0, 1) := by decide +kernel
theorem dX7_count_2 : decode cX7_count 2 = .ok (.putfield 48, 3) := by decide +kernel
theorem dX7_count_5 : decode cX7_count 5 = .ok (.iload_n 1, 1) := by decide +kernel
theorem dX7_count_6 : decode cX7_count 6 = .ok (.iconst 0, 1) := by decide +kernel
theorem dX7_count_7 : decode cX7_count 7 = .ok (.bipush 11, 2) := by decide +kernel
theorem dX7_count_9 : decode cX7_count 9 = .ok (.invokestatic 52, 3) := by decide +kernel
theorem dX7_count_12 : decode cX7_count 12 = .ok (.ifCond .eq 11, 3) := by decide +kernel
theorem dX7_count_15 : decode cX7_count 15 = .ok (.aload_n 0, 1) := by decide +kernel
theorem dX7_count_16 : decode cX7_count 16 = .ok (.iload_n 1, 1) := by decide +kernel
theorem dX7_count_17 : decode cX7_count 17 = .ok (.invokevirtual 211, 3) := by decide +kernel
theorem dX7_count_20 : decode cX7_count 20 = .ok (.goto 8, 3) := by decide +kernel
theorem dX7_count_23 : decode cX7_count 23 = .ok (.aload_n 0, 1) := by decide +kernel
theorem dX7_count_24 : decode cX7_count 24 = .ok (.iconst 1, 1) := by decide +kernel
theorem dX7_count_25 : decode cX7_count 25 = .ok (.invokevirtual 72, 3) := by decide +kernel
theorem dX7_count_28 : decode cX7_count 28 = .ok (.ireturn, 1) := by decide +kernel
set_option maxRecDepth 100000 in
theorem ggX7_way_X7_isCell : GoodIn wsX7_way wsX7_isCell := goodIn_r _ [8, 9, 10, 7, 11] rfl (by decide +kernel)
set_option maxRecDepth 100000 in
theorem gX7_way_X7_isCell : GoodIn wsX7_way (va_wsS RX7 59 yX7_isCell wsX7_isCell) := goodIn_app (goodIn_of _ (by decide +kernel)) ggX7_way_X7_isCell
set_option maxRecDepth 100000 in
theorem ggX7_way_X7_no : GoodIn wsX7_way wsX7_no := goodIn_r _ [15, 1, 25, 26, 27, 28, 29, 30, 31, 32, 33, 34, 35, 36, 37, 38] rfl (by decide +kernel)
set_option maxRecDepth 100000 in
theorem gX7_way_X7_no : GoodIn wsX7_way (wsV RX7 72 RX7 yX7_no wsX7_no) := goodIn_app (goodIn_of _ (by decide +kernel)) ggX7_way_X7_no
set_option maxRecDepth 100000 in
theorem ggX7_way_X6_isTunnel : GoodIn wsX7_way wsX6_isTunnel := goodIn_r _ [20, 21, 39, 40, 41, 42, 43] rfl (by decide +kernel)
set_option maxRecDepth 100000 in
theorem gX7_way_X6_isTunnel : GoodIn wsX7_way (wsV RX7 87 RX6 yX6_isTunnel wsX6_isTunnel) := goodIn_app (goodIn_of _ (by decide +kernel)) ggX7_way_X6_isTunnel
theorem dX7_way_0 : decode cX7_way 0 = .ok (.aload_n 0, 1) := by decide +kernel
theorem dX7_way_1 : decode cX7_way 1 = .ok (.iconst 0, 1) := by decide +kernel
theorem dX7_way_2 : decode cX7_way 2 = .ok (.putfield 48, 3) := by decide +kernel
theorem dX7_way_5 : decode cX7_way 5 = .ok (.iload_n 1, 1) := by decide +kernel
theorem dX7_way_6 : decode cX7_way 6 = .ok (.iload_n 2, 1) := by decide +kernel
theorem dX7_way_7 : decode cX7_way 7 = .ok (.invokestatic 59, 3) := by decide +kernel
theorem dX7_way_10 : decode cX7_way 10 = .ok (.ifCond .eq 12, 3) := by decide +kernel
theorem dX7_way_13 : decode cX7_way 13 = .ok (.iload_n 3, 1) := by decide +kernel
theorem dX7_way_14 : decode cX7_way 14 = .ok (.iload 4, 2) := by decide +kernel
theorem dX7_way_16 : decode cX7_way 16 = .ok (.invokestatic 59, 3) := by decide +kernel
theorem dX7_way_19 : decode cX7_way 19 = .ok (.ifCond .ne 9, 3) := by decide +kernel
theorem dX7_way_22 : decode cX7_way 22 = .ok (.aload_n 0, 1) := by decide +kernel
theorem dX7_way_23 : decode cX7_way 23 = .ok (.iconst 1, 1) := by decide +kernel
theorem dX7_way_24 : decode cX7_way 24 = .ok (.invokevirtual 72, 3) := by decide +kernel
theorem dX7_way_27 : decode cX7_way 27 = .ok (.ireturn, 1) := by decide +kernel
theorem dX7_way_28 : decode cX7_way 28 = .ok (.bipush 12, 2) := by decide +kernel
theorem dX7_way_30 : decode cX7_way 30 = .ok (.iload_n 2, 1) := by decide +kernel
theorem dX7_way_31 : decode cX7_way 31 = .ok (.imul, 1) := by decide +kernel
theorem dX7_way_32 : decode cX7_way 32 = .ok (.iload_n 1, 1) := by decide +kernel
theorem dX7_way_33 : decode cX7_way 33 = .ok (.iadd, 1) := by decide +kernel
theorem dX7_way_34 : decode cX7_way 34 = .ok (.istore 5, 2) := by decide +kernel
theorem dX7_way_36 : decode cX7_way 36 = .ok (.bipush 12, 2) := by decide +kernel
theorem dX7_way_38 : decode cX7_way 38 = .ok (.iload 4, 2) := by decide +kernel
theorem dX7_way_40 : decode cX7_way 40 = .ok (.imul, 1) := by decide +kernel
theorem dX7_way_41 : decode cX7_way 41 = .ok (.iload_n 3, 1) := by decide +kernel
theorem dX7_way_42 : decode cX7_way 42 = .ok (.iadd, 1) := by decide +kernel
theorem dX7_way_43 : decode cX7_way 43 = .ok (.istore 6, 2) := by decide +kernel
theorem dX7_way_45 : decode cX7_way 45 = .ok (.aload_n 0, 1) := by decide +kernel
theorem dX7_way_46 : decode cX7_way 46 = .ok (.getfield 38, 3) := by decide +kernel
theorem dX7_way_49 : decode cX7_way 49 = .ok (.iload 5, 2) := by decide +kernel
theorem dX7_way_51 : decode cX7_way 51 = .ok (.invokevirtual 87, 3) := by decide +kernel
theorem dX7_way_54 : decode cX7_way 54 = .ok (.ifCond .eq 15, 3) := by decide +kernel
theorem dX7_way_57 : decode cX7_way 57 = .ok (.aload_n 0, 1) := by decide +kernel
theorem dX7_way_58 : decode cX7_way 58 = .ok (.getfield 38, 3) := by decide +kernel
theorem dX7_way_61 : decode cX7_way 61 = .ok (.iload 6, 2) := by decide +kernel
theorem dX7_way_63 : decode cX7_way 63 = .ok (.invokevirtual 87, 3) := by decide +kernel
theorem dX7_way_66 : decode cX7_way 66 = .ok (.ifCond .ne 5, 3) := by decide +kernel
theorem dX7_way_69 : decode cX7_way 69 = .ok (.iconst (-1), 1) := by decide +kernel
theorem dX7_way_70 : decode cX7_way 70 = .ok (.ireturn, 1) := by decide +kernel
theorem dX7_way_71 : decode cX7_way 71 = .ok (.iconst 0, 1) := by decide +kernel
theorem dX7_way_72 : decode cX7_way 72 = .ok (.istore 7, 2) := by decide +kernel
theorem dX7_way_74 : decode cX7_way 74 = .ok (.iload 7, 2) := by decide +kernel
theorem dX7_way_76 : decode cX7_way 76 = .ok (.sipush 144, 3) := by decide +kernel
theorem dX7_way_79 : decode cX7_way 79 = .ok (.if_icmp .ge 17, 3) := by decide +kernel
theorem dX7_way_82 : decode cX7_way 82 = .ok (.aload_n 0, 1) := by decide +kernel
theorem dX7_way_83 : decode cX7_way 83 = .ok (.getfield 16, 3) := by decide +kernel
theorem dX7_way_86 : decode cX7_way 86 = .ok (.iload 7, 2) := by decide +kernel
theorem dX7_way_88 : decode cX7_way 88 = .ok (.iconst (-1), 1) := by decide +kernel
theorem dX7_way_89 : decode cX7_way 89 = .ok (.iastore, 1) := by decide +kernel
theorem dX7_way_90 : decode cX7_way 90 = .ok (.iinc 7 1, 3) := by decide +kernel
theorem dX7_way_93 : decode cX7_way 93 = .ok (.goto (-19), 3) := by decide +kernel
theorem dX7_way_96 : decode cX7_way 96 = .ok (.aload_n 0, 1) := by decide +kernel
theorem dX7_way_97 : decode cX7_way 97 = .ok (.getfield 16, 3) := by decide +kernel
theorem dX7_way_100 : decode cX7_way 100 = .ok (.iload 5, 2) := by decide +kernel
theorem dX7_way_102 : decode cX7_way 102 = .ok (.iconst 0, 1) := by decide +kernel
theorem dX7_way_103 : decode cX7_way 103 = .ok (.iastore, 1) := by decide +kernel
theorem dX7_way_104 : decode cX7_way 104 = .ok (.aload_n 0, 1) := by decide +kernel
theorem dX7_way_105 : decode cX7_way 105 = .ok (.getfield 19, 3) := by decide +kernel
theorem dX7_way_108 : decode cX7_way 108 = .ok (.iconst 0, 1) := by decide +kernel
theorem dX7_way_109 : decode cX7_way 109 = .ok (.iload 5, 2) := by decide +kernel
theorem dX7_way_111 : decode cX7_way 111 = .ok (.iastore, 1) := by decide +kernel
theorem dX7_way_112 : decode cX7_way 112 = .ok (.iconst 1, 1) := by decide +kernel
theorem dX7_way_113 : decode cX7_way 113 = .ok (.istore 7, 2) := by decide +kernel
theorem dX7_way_115 : decode cX7_way 115 = .ok (.iconst 0, 1) := by decide +kernel
theorem dX7_way_116 : decode cX7_way 116 = .ok (.istore 8, 2) := by decide +kernel
theorem dX7_way_118 : decode cX7_way 118 = .ok (.iload 8, 2) := by decide +kernel
theorem dX7_way_120 : decode cX7_way 120 = .ok (.iload 7, 2) := by decide +kernel
theorem dX7_way_122 : decode cX7_way 122 = .ok (.if_icmp .ge 97, 3) := by decide +kernel
theorem dX7_way_125 : decode cX7_way 125 = .ok (.iconst 0, 1) := by decide +kernel
theorem dX7_way_126 : decode cX7_way 126 = .ok (.istore 9, 2) := by decide +kernel
theorem dX7_way_128 : decode cX7_way 128 = .ok (.iload 9, 2) := by decide +kernel
theorem dX7_way_130 : decode cX7_way 130 = .ok (.iconst 4, 1) := by decide +kernel
theorem dX7_way_131 : decode cX7_way 131 = .ok (.if_icmp .ge 82, 3) := by decide +kernel
theorem dX7_way_134 : decode cX7_way 134 = .ok (.aload_n 0, 1) := by decide +kernel
theorem dX7_way_135 : decode cX7_way 135 = .ok (.getfield 19, 3) := by decide +kernel
theorem dX7_way_138 : decode cX7_way 138 = .ok (.iload 8, 2) := by decide +kernel
theorem dX7_way_140 : decode cX7_way 140 = .ok (.iaload, 1) := by decide +kernel
theorem dX7_way_141 : decode cX7_way 141 = .ok (.iload 9, 2) := by decide +kernel
theorem dX7_way_143 : decode cX7_way 143 = .ok (.invokestatic 147, 3) := by decide +kernel
theorem dX7_way_146 : decode cX7_way 146 = .ok (.istore 10, 2) := by decide +kernel
theorem dX7_way_148 : decode cX7_way 148 = .ok (.aload_n 0, 1) := by decide +kernel
theorem dX7_way_149 : decode cX7_way 149 = .ok (.getfield 38, 3) := by decide +kernel
theorem dX7_way_152 : decode cX7_way 152 = .ok (.iload 10, 2) := by decide +kernel
theorem dX7_way_154 : decode cX7_way 154 = .ok (.invokevirtual 87, 3) := by decide +kernel
theorem dX7_way_157 : decode cX7_way 157 = .ok (.ifCond .eq 50, 3) := by decide +kernel
theorem dX7_way_160 : decode cX7_way 160 = .ok (.aload_n 0, 1) := by decide +kernel
theorem dX7_way_161 : decode cX7_way 161 = .ok (.getfield 16, 3) := by decide +kernel
theorem dX7_way_164 : decode cX7_way 164 = .ok (.iload 10, 2) := by decide +kernel
theorem dX7_way_166 : decode cX7_way 166 = .ok (.iaload, 1) := by decide +kernel
theorem dX7_way_167 : decode cX7_way 167 = .ok (.iconst (-1), 1) := by decide +kernel
theorem dX7_way_168 : decode cX7_way 168 = .ok (.if_icmp .eq 6, 3) := by decide +kernel
theorem dX7_way_171 : decode cX7_way 171 = .ok (.goto 36, 3) := by decide +kernel
theorem dX7_way_174 : decode cX7_way 174 = .ok (.aload_n 0, 1) := by decide +kernel
theorem dX7_way_175 : decode cX7_way 175 = .ok (.getfield 16, 3) := by decide +kernel
theorem dX7_way_178 : decode cX7_way 178 = .ok (.iload 10, 2) := by decide +kernel
theorem dX7_way_180 : decode cX7_way 180 = .ok (.aload_n 0, 1) := by decide +kernel
theorem dX7_way_181 : decode cX7_way 181 = .ok (.getfield 16, 3) := by decide +kernel
theorem dX7_way_184 : decode cX7_way 184 = .ok (.aload_n 0, 1) := by decide +kernel
theorem dX7_way_185 : decode cX7_way 185 = .ok (.getfield 19, 3) := by decide +kernel
theorem dX7_way_188 : decode cX7_way 188 = .ok (.iload 8, 2) := by decide +kernel
theorem dX7_way_190 : decode cX7_way 190 = .ok (.iaload, 1) := by decide +kernel
theorem dX7_way_191 : decode cX7_way 191 = .ok (.iaload, 1) := by decide +kernel
theorem dX7_way_192 : decode cX7_way 192 = .ok (.iconst 1, 1) := by decide +kernel
theorem dX7_way_193 : decode cX7_way 193 = .ok (.iadd, 1) := by decide +kernel
theorem dX7_way_194 : decode cX7_way 194 = .ok (.iastore, 1) := by decide +kernel
theorem dX7_way_195 : decode cX7_way 195 = .ok (.aload_n 0, 1) := by decide +kernel
theorem dX7_way_196 : decode cX7_way 196 = .ok (.getfield 19, 3) := by decide +kernel
theorem dX7_way_199 : decode cX7_way 199 = .ok (.iload 7, 2) := by decide +kernel
theorem dX7_way_201 : decode cX7_way 201 = .ok (.iload 10, 2) := by decide +kernel
theorem dX7_way_203 : decode cX7_way 203 = .ok (.iastore, 1) := by decide +kernel
theorem dX7_way_204 : decode cX7_way 204 = .ok (.iinc 7 1, 3) := by decide +kernel
theorem dX7_way_207 : decode cX7_way 207 = .ok (.iinc 9 1, 3) := by decide +kernel
theorem dX7_way_210 : decode cX7_way 210 = .ok (.goto (-82), 3) := by decide +kernel
theorem dX7_way_213 : decode cX7_way 213 = .ok (.iinc 8 1, 3) := by decide +kernel
theorem dX7_way_216 : decode cX7_way 216 = .ok (.goto (-98), 3) := by decide +kernel
theorem dX7_way_219 : decode cX7_way 219 = .ok (.aload_n 0, 1) := by decide +kernel
theorem dX7_way_220 : decode cX7_way 220 = .ok (.getfield 16, 3) := by decide +kernel
theorem dX7_way_223 : decode cX7_way 223 = .ok (.iload 6, 2) := by decide +kernel
theorem dX7_way_225 : decode cX7_way 225 = .ok (.iaload, 1) := by decide +kernel
theorem dX7_way_226 : decode cX7_way 226 = .ok (.ireturn, 1) := by decide +kernel
set_option maxRecDepth 100000 in
theorem ggX7_reach_X7_isTeam : GoodIn wsX7_reach wsX7_isTeam := goodIn_r _ [8, 9, 10, 11, 7, 12, 39, 40, 41, 42, 43, 44, 45, 46, 47, 48, 49, 50, 51, 52] rfl (by decide +kernel)
set_option maxRecDepth 100000 in
theorem gX7_reach_X7_isTeam : GoodIn wsX7_reach (wsV RX7 110 RX7 yX7_isTeam wsX7_isTeam) := goodIn_app (goodIn_of _ (by decide +kernel)) ggX7_reach_X7_isTeam
set_option maxRecDepth 100000 in
theorem ggX7_reach_X7_no : GoodIn wsX7_reach wsX7_no := goodIn_r _ [19, 1, 39, 40, 41, 42, 43, 44, 45, 46, 47, 48, 49, 50, 51, 52] rfl (by decide +kernel)
set_option maxRecDepth 100000 in
theorem gX7_reach_X7_no : GoodIn wsX7_reach (wsV RX7 72 RX7 yX7_no wsX7_no) := goodIn_app (goodIn_of _ (by decide +kernel)) ggX7_reach_X7_no
theorem dX7_reach_0 : decode cX7_reach 0 = .ok (.aload_n 0, 1) := by decide +kernel
theorem dX7_reach_1 : decode cX7_reach 1 = .ok (.iconst 0, 1) := by decide +kernel
theorem dX7_reach_2 : decode cX7_reach 2 = .ok (.putfield 48, 3) := by decide +kernel
theorem dX7_reach_5 : decode cX7_reach 5 = .ok (.aload_n 0, 1) := by decide +kernel
theorem dX7_reach_6 : decode cX7_reach 6 = .ok (.iload_n 1, 1) := by decide +kernel
theorem dX7_reach_7 : decode cX7_reach 7 = .ok (.invokevirtual 110, 3) := by decide +kernel
theorem dX7_reach_10 : decode cX7_reach 10 = .ok (.ifCond .eq 11, 3) := by decide +kernel
theorem dX7_reach_13 : decode cX7_reach 13 = .ok (.iload_n 2, 1) := by decide +kernel
theorem dX7_reach_14 : decode cX7_reach 14 = .ok (.iload_n 3, 1) := by decide +kernel
theorem dX7_reach_15 : decode cX7_reach 15 = .ok (.invokestatic 59, 3) := by decide +kernel
theorem dX7_reach_18 : decode cX7_reach 18 = .ok (.ifCond .ne 9, 3) := by decide +kernel
theorem dX7_reach_21 : decode cX7_reach 21 = .ok (.aload_n 0, 1) := by decide +kernel
theorem dX7_reach_22 : decode cX7_reach 22 = .ok (.iconst 1, 1) := by decide +kernel
theorem dX7_reach_23 : decode cX7_reach 23 = .ok (.invokevirtual 72, 3) := by decide +kernel
theorem dX7_reach_26 : decode cX7_reach 26 = .ok (.ireturn, 1) := by decide +kernel
theorem dX7_reach_27 : decode cX7_reach 27 = .ok (.aload_n 0, 1) := by decide +kernel
theorem dX7_reach_28 : decode cX7_reach 28 = .ok (.iload_n 1, 1) := by decide +kernel
theorem dX7_reach_29 : decode cX7_reach 29 = .ok (.invokevirtual 215, 3) := by decide +kernel
theorem dX7_reach_32 : decode cX7_reach 32 = .ok (.aload_n 0, 1) := by decide +kernel
theorem dX7_reach_33 : decode cX7_reach 33 = .ok (.getfield 16, 3) := by decide +kernel
theorem dX7_reach_36 : decode cX7_reach 36 = .ok (.bipush 12, 2) := by decide +kernel
theorem dX7_reach_38 : decode cX7_reach 38 = .ok (.iload_n 3, 1) := by decide +kernel
theorem dX7_reach_39 : decode cX7_reach 39 = .ok (.imul, 1) := by decide +kernel
theorem dX7_reach_40 : decode cX7_reach 40 = .ok (.iload_n 2, 1) := by decide +kernel
theorem dX7_reach_41 : decode cX7_reach 41 = .ok (.iadd, 1) := by decide +kernel
theorem dX7_reach_42 : decode cX7_reach 42 = .ok (.iaload, 1) := by decide +kernel
theorem dX7_reach_43 : decode cX7_reach 43 = .ok (.istore 4, 2) := by decide +kernel
theorem dX7_reach_45 : decode cX7_reach 45 = .ok (.iload 4, 2) := by decide +kernel
theorem dX7_reach_47 : decode cX7_reach 47 = .ok (.ldc 214, 2) := by decide +kernel
theorem dX7_reach_49 : decode cX7_reach 49 = .ok (.if_icmp .lt 7, 3) := by decide +kernel
theorem dX7_reach_52 : decode cX7_reach 52 = .ok (.iconst (-1), 1) := by decide +kernel
theorem dX7_reach_53 : decode cX7_reach 53 = .ok (.goto 5, 3) := by decide +kernel
theorem dX7_reach_56 : decode cX7_reach 56 = .ok (.iload 4, 2) := by decide +kernel
theorem dX7_reach_58 : decode cX7_reach 58 = .ok (.ireturn, 1) := by decide +kernel
set_option maxRecDepth 100000 in
theorem ggX7_target_X7_isTeam : GoodIn wsX7_target wsX7_isTeam := goodIn_r _ [9, 10, 11, 12, 8, 13, 39, 40, 41, 42, 43, 44, 45, 46, 47, 48, 49, 50, 51, 52] rfl (by decide +kernel)
set_option maxRecDepth 100000 in
theorem gX7_target_X7_isTeam : GoodIn wsX7_target (wsV RX7 110 RX7 yX7_isTeam wsX7_isTeam) := goodIn_app (goodIn_of _ (by decide +kernel)) ggX7_target_X7_isTeam
set_option maxRecDepth 100000 in
theorem ggX7_target_X7_no : GoodIn wsX7_target wsX7_no := goodIn_r _ [17, 1, 39, 40, 41, 42, 43, 44, 45, 46, 47, 48, 49, 50, 51, 52] rfl (by decide +kernel)
set_option maxRecDepth 100000 in
theorem gX7_target_X7_no : GoodIn wsX7_target (wsV RX7 72 RX7 yX7_no wsX7_no) := goodIn_app (goodIn_of _ (by decide +kernel)) ggX7_target_X7_no
theorem dX7_target_0 : decode cX7_target 0 = .ok (.aload_n 0, 1) := by decide +kernel
theorem dX7_target_1 : decode cX7_target 1 = .ok (.iconst 0, 1) := by decide +kernel
theorem dX7_target_2 : decode cX7_target 2 = .ok (.putfield 48, 3) := by decide +kernel
theorem dX7_target_5 : decode cX7_target 5 = .ok (.aload_n 0, 1) := by decide +kernel
theorem dX7_target_6 : decode cX7_target 6 = .ok (.iload_n 1, 1) := by decide +kernel
theorem dX7_target_7 : decode cX7_target 7 = .ok (.invokevirtual 110, 3) := by decide +kernel
theorem dX7_target_10 : decode cX7_target 10 = .ok (.ifCond .ne 9, 3) := by decide +kernel
theorem dX7_target_13 : decode cX7_target 13 = .ok (.aload_n 0, 1) := by decide +kernel
theorem dX7_target_14 : decode cX7_target 14 = .ok (.iconst 1, 1) := by decide +kernel
theorem dX7_target_15 : decode cX7_target 15 = .ok (.invokevirtual 72, 3) := by decide +kernel
theorem dX7_target_18 : decode cX7_target 18 = .ok (.ireturn, 1) := by decide +kernel
theorem dX7_target_19 : decode cX7_target 19 = .ok (.aload_n 0, 1) := by decide +kernel
theorem dX7_target_20 : decode cX7_target 20 = .ok (.iload_n 1, 1) := by decide +kernel
theorem dX7_target_21 : decode cX7_target 21 = .ok (.invokevirtual 215, 3) := by decide +kernel
theorem dX7_target_24 : decode cX7_target 24 = .ok (.iconst (-1), 1) := by decide +kernel
theorem dX7_target_25 : decode cX7_target 25 = .ok (.istore_n 2, 1) := by decide +kernel
theorem dX7_target_26 : decode cX7_target 26 = .ok (.ldc 214, 2) := by decide +kernel
theorem dX7_target_28 : decode cX7_target 28 = .ok (.istore_n 3, 1) := by decide +kernel
theorem dX7_target_29 : decode cX7_target 29 = .ok (.iconst 0, 1) := by decide +kernel
theorem dX7_target_30 : decode cX7_target 30 = .ok (.istore 4, 2) := by decide +kernel
theorem dX7_target_32 : decode cX7_target 32 = .ok (.iload 4, 2) := by decide +kernel
theorem dX7_target_34 : decode cX7_target 34 = .ok (.sipush 144, 3) := by decide +kernel
theorem dX7_target_37 : decode cX7_target 37 = .ok (.if_icmp .ge 52, 3) := by decide +kernel
theorem dX7_target_40 : decode cX7_target 40 = .ok (.aload_n 0, 1) := by decide +kernel
theorem dX7_target_41 : decode cX7_target 41 = .ok (.getfield 38, 3) := by decide +kernel
theorem dX7_target_44 : decode cX7_target 44 = .ok (.getfield 45, 3) := by decide +kernel
theorem dX7_target_47 : decode cX7_target 47 = .ok (.bipush 8, 2) := by decide +kernel
theorem dX7_target_49 : decode cX7_target 49 = .ok (.iload 4, 2) := by decide +kernel
theorem dX7_target_51 : decode cX7_target 51 = .ok (.imul, 1) := by decide +kernel
theorem dX7_target_52 : decode cX7_target 52 = .ok (.iconst 1, 1) := by decide +kernel
theorem dX7_target_53 : decode cX7_target 53 = .ok (.iadd, 1) := by decide +kernel
theorem dX7_target_54 : decode cX7_target 54 = .ok (.iaload, 1) := by decide +kernel
theorem dX7_target_55 : decode cX7_target 55 = .ok (.ifCond .le 28, 3) := by decide +kernel
theorem dX7_target_58 : decode cX7_target 58 = .ok (.aload_n 0, 1) := by decide +kernel
theorem dX7_target_59 : decode cX7_target 59 = .ok (.getfield 16, 3) := by decide +kernel
theorem dX7_target_62 : decode cX7_target 62 = .ok (.iload 4, 2) := by decide +kernel
theorem dX7_target_64 : decode cX7_target 64 = .ok (.iaload, 1) := by decide +kernel
theorem dX7_target_65 : decode cX7_target 65 = .ok (.iload_n 3, 1) := by decide +kernel
theorem dX7_target_66 : decode cX7_target 66 = .ok (.if_icmp .lt 6, 3) := by decide +kernel
theorem dX7_target_69 : decode cX7_target 69 = .ok (.goto 14, 3) := by decide +kernel
theorem dX7_target_72 : decode cX7_target 72 = .ok (.iload 4, 2) := by decide +kernel
theorem dX7_target_74 : decode cX7_target 74 = .ok (.istore_n 2, 1) := by decide +kernel
theorem dX7_target_75 : decode cX7_target 75 = .ok (.aload_n 0, 1) := by decide +kernel
theorem dX7_target_76 : decode cX7_target 76 = .ok (.getfield 16, 3) := by decide +kernel
theorem dX7_target_79 : decode cX7_target 79 = .ok (.iload 4, 2) := by decide +kernel
theorem dX7_target_81 : decode cX7_target 81 = .ok (.iaload, 1) := by decide +kernel
theorem dX7_target_82 : decode cX7_target 82 = .ok (.istore_n 3, 1) := by decide +kernel
theorem dX7_target_83 : decode cX7_target 83 = .ok (.iinc 4 1, 3) := by decide +kernel
theorem dX7_target_86 : decode cX7_target 86 = .ok (.goto (-54), 3) := by decide +kernel
theorem dX7_target_89 : decode cX7_target 89 = .ok (.iload_n 2, 1) := by decide +kernel
theorem dX7_target_90 : decode cX7_target 90 = .ok (.ireturn, 1) := by decide +kernel
set_option maxRecDepth 100000 in
theorem ggX7_foresee_X7_isIn : GoodIn wsX7_foresee wsX7_isIn := goodIn_r _ [7] rfl (by decide +kernel)
set_option maxRecDepth 100000 in
theorem gX7_foresee_X7_isIn : GoodIn wsX7_foresee (va_wsS RX7 52 yX7_isIn wsX7_isIn) := goodIn_app (goodIn_of _ (by decide +kernel)) ggX7_foresee_X7_isIn
set_option maxRecDepth 100000 in
theorem ggX7_foresee_X7_no : GoodIn wsX7_foresee wsX7_no := goodIn_r _ [11, 1, 136, 137, 138, 139, 140, 141, 142, 143, 144, 145, 146, 147, 148, 149] rfl (by decide +kernel)
set_option maxRecDepth 100000 in
theorem gX7_foresee_X7_no : GoodIn wsX7_foresee (wsV RX7 72 RX7 yX7_no wsX7_no) := goodIn_app (goodIn_of _ (by decide +kernel)) ggX7_foresee_X7_no
set_option maxRecDepth 100000 in
theorem ggX7_foresee_X6_become : GoodIn wsX7_foresee wsX6_become := goodIn_r _ [16, 17, 18, 19, 20, 21, 22, 23, 24, 25, 150, 151, 152, 153, 154] rfl (by decide +kernel)
set_option maxRecDepth 100000 in
theorem gX7_foresee_X6_become : GoodIn wsX7_foresee (wsV RX7 218 RX6 yX6_become wsX6_become) := goodIn_app (goodIn_of _ (by decide +kernel)) ggX7_foresee_X6_become
set_option maxRecDepth 100000 in
theorem ggX7_foresee_X7_hours : GoodIn wsX7_foresee wsX7_hours := goodIn_r _ [29, 30, 31, 32, 6, 33, 34, 35, 36, 37, 38, 39, 40, 41, 42, 43, 44, 15, 45, 24, 46, 47, 48, 49, 50, 51, 52, 53, 54, 55, 56, 57, 58, 59, 60, 61, 62, 63, 64, 65, 66, 67, 68, 69, 70, 71, 72, 73, 74, 75, 76, 77, 4, 5, 7, 78, 79, 80, 81, 19, 82, 83, 84, 85, 86, 87, 88, 89, 90, 91, 92, 93, 94, 95, 96, 97, 98, 99, 100, 101, 102, 103, 104, 105, 106, 107, 108, 109, 110, 111, 112, 113, 114, 115, 116, 117, 118, 119, 120, 121, 122, 123, 124, 125, 126, 127, 128, 129, 130, 131, 136, 137, 138, 139, 140, 141, 142, 143, 144, 145, 146, 147, 148, 149, 150, 151, 152, 153, 154] rfl (by decide +kernel)
set_option maxRecDepth 100000 in
theorem gX7_foresee_X7_hours : GoodIn wsX7_foresee (wsV RX7 200 RX7 yX7_hours wsX7_hours) := goodIn_app (goodIn_of _ (by decide +kernel)) ggX7_foresee_X7_hours
set_option maxRecDepth 100000 in
theorem ggX7_foresee_X7_standing : GoodIn wsX7_foresee wsX7_standing := goodIn_r _ [135, 34, 42, 43, 44, 15, 45, 24, 136, 137, 138, 139, 140, 141, 142, 143, 144, 145, 146, 147, 148, 149, 150, 151, 152, 153, 154] rfl (by decide +kernel)
set_option maxRecDepth 100000 in
theorem gX7_foresee_X7_standing : GoodIn wsX7_foresee (wsV RX7 202 RX7 yX7_standing wsX7_standing) := goodIn_app (goodIn_of _ (by decide +kernel)) ggX7_foresee_X7_standing
theorem dX7_foresee_0 : decode cX7_foresee 0 = .ok (.aload_n 0, 1) := by decide +kernel
theorem dX7_foresee_1 : decode cX7_foresee 1 = .ok (.iconst 0, 1) := by decide +kernel
theorem dX7_foresee_2 : decode cX7_foresee 2 = .ok (.putfield 48, 3) := by decide +kernel
theorem dX7_foresee_5 : decode cX7_foresee 5 = .ok (.iload_n 1, 1) := by decide +kernel
theorem dX7_foresee_6 : decode cX7_foresee 6 = .ok (.iconst 1, 1) := by decide +kernel
theorem dX7_foresee_7 : decode cX7_foresee 7 = .ok (.sipush 150, 3) := by decide +kernel
theorem dX7_foresee_10 : decode cX7_foresee 10 = .ok (.invokestatic 52, 3) := by decide +kernel
theorem dX7_foresee_13 : decode cX7_foresee 13 = .ok (.ifCond .ne 9, 3) := by decide +kernel
theorem dX7_foresee_16 : decode cX7_foresee 16 = .ok (.aload_n 0, 1) := by decide +kernel
theorem dX7_foresee_17 : decode cX7_foresee 17 = .ok (.iconst 1, 1) := by decide +kernel
theorem dX7_foresee_18 : decode cX7_foresee 18 = .ok (.invokevirtual 72, 3) := by decide +kernel
theorem dX7_foresee_21 : decode cX7_foresee 21 = .ok (.ireturn, 1) := by decide +kernel
theorem dX7_foresee_22 : decode cX7_foresee 22 = .ok (.iload_n 2, 1) := by decide +kernel
theorem dX7_foresee_23 : decode cX7_foresee 23 = .ok (.iconst 0, 1) := by decide +kernel
theorem dX7_foresee_24 : decode cX7_foresee 24 = .ok (.iconst 3, 1) := by decide +kernel
theorem dX7_foresee_25 : decode cX7_foresee 25 = .ok (.invokestatic 52, 3) := by decide +kernel
theorem dX7_foresee_28 : decode cX7_foresee 28 = .ok (.ifCond .ne 9, 3) := by decide +kernel
theorem dX7_foresee_31 : decode cX7_foresee 31 = .ok (.aload_n 0, 1) := by decide +kernel
theorem dX7_foresee_32 : decode cX7_foresee 32 = .ok (.iconst 2, 1) := by decide +kernel
theorem dX7_foresee_33 : decode cX7_foresee 33 = .ok (.invokevirtual 72, 3) := by decide +kernel
theorem dX7_foresee_36 : decode cX7_foresee 36 = .ok (.ireturn, 1) := by decide +kernel
theorem dX7_foresee_37 : decode cX7_foresee 37 = .ok (.aload_n 0, 1) := by decide +kernel
theorem dX7_foresee_38 : decode cX7_foresee 38 = .ok (.getfield 42, 3) := by decide +kernel
theorem dX7_foresee_41 : decode cX7_foresee 41 = .ok (.aload_n 0, 1) := by decide +kernel
theorem dX7_foresee_42 : decode cX7_foresee 42 = .ok (.getfield 38, 3) := by decide +kernel
theorem dX7_foresee_45 : decode cX7_foresee 45 = .ok (.invokevirtual 218, 3) := by decide +kernel
theorem dX7_foresee_48 : decode cX7_foresee 48 = .ok (.aload_n 0, 1) := by decide +kernel
theorem dX7_foresee_49 : decode cX7_foresee 49 = .ok (.aload_n 0, 1) := by decide +kernel
theorem dX7_foresee_50 : decode cX7_foresee 50 = .ok (.getfield 42, 3) := by decide +kernel
theorem dX7_foresee_53 : decode cX7_foresee 53 = .ok (.iload_n 1, 1) := by decide +kernel
theorem dX7_foresee_54 : decode cX7_foresee 54 = .ok (.invokevirtual 200, 3) := by decide +kernel
theorem dX7_foresee_57 : decode cX7_foresee 57 = .ok (.istore_n 3, 1) := by decide +kernel
theorem dX7_foresee_58 : decode cX7_foresee 58 = .ok (.iload_n 2, 1) := by decide +kernel
theorem dX7_foresee_59 : decode cX7_foresee 59 = .ok (.ifCond .ne 7, 3) := by decide +kernel
theorem dX7_foresee_62 : decode cX7_foresee 62 = .ok (.iload_n 3, 1) := by decide +kernel
theorem dX7_foresee_63 : decode cX7_foresee 63 = .ok (.goto 37, 3) := by decide +kernel
theorem dX7_foresee_66 : decode cX7_foresee 66 = .ok (.iload_n 2, 1) := by decide +kernel
theorem dX7_foresee_67 : decode cX7_foresee 67 = .ok (.iconst 3, 1) := by decide +kernel
theorem dX7_foresee_68 : decode cX7_foresee 68 = .ok (.if_icmp .ne 21, 3) := by decide +kernel
theorem dX7_foresee_71 : decode cX7_foresee 71 = .ok (.aload_n 0, 1) := by decide +kernel
theorem dX7_foresee_72 : decode cX7_foresee 72 = .ok (.getfield 42, 3) := by decide +kernel
theorem dX7_foresee_75 : decode cX7_foresee 75 = .ok (.getfield 174, 3) := by decide +kernel
theorem dX7_foresee_78 : decode cX7_foresee 78 = .ok (.aload_n 0, 1) := by decide +kernel
theorem dX7_foresee_79 : decode cX7_foresee 79 = .ok (.getfield 38, 3) := by decide +kernel
theorem dX7_foresee_82 : decode cX7_foresee 82 = .ok (.getfield 174, 3) := by decide +kernel
theorem dX7_foresee_85 : decode cX7_foresee 85 = .ok (.isub, 1) := by decide +kernel
theorem dX7_foresee_86 : decode cX7_foresee 86 = .ok (.goto 14, 3) := by decide +kernel
theorem dX7_foresee_89 : decode cX7_foresee 89 = .ok (.aload_n 0, 1) := by decide +kernel
theorem dX7_foresee_90 : decode cX7_foresee 90 = .ok (.aload_n 0, 1) := by decide +kernel
theorem dX7_foresee_91 : decode cX7_foresee 91 = .ok (.getfield 42, 3) := by decide +kernel
theorem dX7_foresee_94 : decode cX7_foresee 94 = .ok (.iload_n 2, 1) := by decide +kernel
theorem dX7_foresee_95 : decode cX7_foresee 95 = .ok (.iconst 1, 1) := by decide +kernel
theorem dX7_foresee_96 : decode cX7_foresee 96 = .ok (.isub, 1) := by decide +kernel
theorem dX7_foresee_97 : decode cX7_foresee 97 = .ok (.invokevirtual 202, 3) := by decide +kernel
theorem dX7_foresee_100 : decode cX7_foresee 100 = .ok (.ireturn, 1) := by decide +kernel
set_option maxRecDepth 100000 in
theorem ggX7_falls_X7_isCell : GoodIn wsX7_falls wsX7_isCell := goodIn_r _ [7, 8, 9, 6, 10] rfl (by decide +kernel)
set_option maxRecDepth 100000 in
theorem gX7_falls_X7_isCell : GoodIn wsX7_falls (va_wsS RX7 59 yX7_isCell wsX7_isCell) := goodIn_app (goodIn_of _ (by decide +kernel)) ggX7_falls_X7_isCell
set_option maxRecDepth 100000 in
theorem ggX7_falls_X7_no : GoodIn wsX7_falls wsX7_no := goodIn_r _ [14, 1, 124, 125, 126, 127, 128, 129, 130, 131, 132, 133, 134, 135, 136, 137] rfl (by decide +kernel)
set_option maxRecDepth 100000 in
theorem gX7_falls_X7_no : GoodIn wsX7_falls (wsV RX7 72 RX7 yX7_no wsX7_no) := goodIn_app (goodIn_of _ (by decide +kernel)) ggX7_falls_X7_no
set_option maxRecDepth 100000 in
theorem ggX7_falls_X6_become : GoodIn wsX7_falls wsX6_become := goodIn_r _ [19, 20, 21, 22, 23, 24, 25, 26, 27, 28, 138, 139, 140, 141, 142] rfl (by decide +kernel)
set_option maxRecDepth 100000 in
theorem gX7_falls_X6_become : GoodIn wsX7_falls (wsV RX7 218 RX6 yX6_become wsX6_become) := goodIn_app (goodIn_of _ (by decide +kernel)) ggX7_falls_X6_become
set_option maxRecDepth 100000 in
theorem ggX7_falls_X7_fallsIn : GoodIn wsX7_falls wsX7_fallsIn := goodIn_r _ [32, 33, 34, 35, 36, 6, 37, 38, 39, 40, 41, 42, 43, 18, 44, 27, 45, 46, 47, 48, 49, 50, 51, 52, 53, 54, 55, 56, 57, 58, 59, 60, 61, 62, 63, 64, 65, 66, 67, 68, 69, 70, 71, 72, 73, 4, 5, 7, 8, 9, 10, 74, 75, 76, 77, 22, 78, 79, 80, 81, 82, 83, 84, 85, 86, 87, 88, 89, 90, 91, 92, 93, 94, 95, 96, 97, 98, 99, 100, 101, 102, 103, 104, 105, 106, 107, 108, 109, 110, 111, 112, 113, 114, 115, 116, 117, 118, 119, 120, 121, 122, 123, 124, 125, 126, 127, 128, 129, 130, 131, 132, 133, 134, 135, 136, 137, 138, 139, 140, 141, 142] rfl (by decide +kernel)
set_option maxRecDepth 100000 in
theorem gX7_falls_X7_fallsIn : GoodIn wsX7_falls (wsV RX7 221 RX7 yX7_fallsIn wsX7_fallsIn) := goodIn_app (goodIn_of _ (by decide +kernel)) ggX7_falls_X7_fallsIn
theorem dX7_falls_0 : decode cX7_falls 0 = .ok (.aload_n 0, 1) := by decide +kernel
theorem dX7_falls_1 : decode cX7_falls 1 = .ok (.iconst 0, 1) := by decide +kernel
theorem dX7_falls_2 : decode cX7_falls 2 = .ok (.putfield 48, 3) := by decide +kernel
theorem dX7_falls_5 : decode cX7_falls 5 = .ok (.iload_n 1, 1) := by decide +kernel
theorem dX7_falls_6 : decode cX7_falls 6 = .ok (.iload_n 2, 1) := by decide +kernel
theorem dX7_falls_7 : decode cX7_falls 7 = .ok (.invokestatic 59, 3) := by decide +kernel
theorem dX7_falls_10 : decode cX7_falls 10 = .ok (.ifCond .ne 9, 3) := by decide +kernel
theorem dX7_falls_13 : decode cX7_falls 13 = .ok (.aload_n 0, 1) := by decide +kernel
theorem dX7_falls_14 : decode cX7_falls 14 = .ok (.iconst 1, 1) := by decide +kernel
theorem dX7_falls_15 : decode cX7_falls 15 = .ok (.invokevirtual 72, 3) := by decide +kernel
theorem dX7_falls_18 : decode cX7_falls 18 = .ok (.ireturn, 1) := by decide +kernel
theorem dX7_falls_19 : decode cX7_falls 19 = .ok (.bipush 12, 2) := by decide +kernel
theorem dX7_falls_21 : decode cX7_falls 21 = .ok (.iload_n 2, 1) := by decide +kernel
theorem dX7_falls_22 : decode cX7_falls 22 = .ok (.imul, 1) := by decide +kernel
theorem dX7_falls_23 : decode cX7_falls 23 = .ok (.iload_n 1, 1) := by decide +kernel
theorem dX7_falls_24 : decode cX7_falls 24 = .ok (.iadd, 1) := by decide +kernel
theorem dX7_falls_25 : decode cX7_falls 25 = .ok (.istore_n 3, 1) := by decide +kernel
theorem dX7_falls_26 : decode cX7_falls 26 = .ok (.aload_n 0, 1) := by decide +kernel
theorem dX7_falls_27 : decode cX7_falls 27 = .ok (.getfield 42, 3) := by decide +kernel
theorem dX7_falls_30 : decode cX7_falls 30 = .ok (.aload_n 0, 1) := by decide +kernel
theorem dX7_falls_31 : decode cX7_falls 31 = .ok (.getfield 38, 3) := by decide +kernel
theorem dX7_falls_34 : decode cX7_falls 34 = .ok (.invokevirtual 218, 3) := by decide +kernel
theorem dX7_falls_37 : decode cX7_falls 37 = .ok (.iconst 1, 1) := by decide +kernel
theorem dX7_falls_38 : decode cX7_falls 38 = .ok (.istore 4, 2) := by decide +kernel
theorem dX7_falls_40 : decode cX7_falls 40 = .ok (.iload 4, 2) := by decide +kernel
theorem dX7_falls_42 : decode cX7_falls 42 = .ok (.sipush 150, 3) := by decide +kernel
theorem dX7_falls_45 : decode cX7_falls 45 = .ok (.if_icmp .gt 24, 3) := by decide +kernel
theorem dX7_falls_48 : decode cX7_falls 48 = .ok (.aload_n 0, 1) := by decide +kernel
theorem dX7_falls_49 : decode cX7_falls 49 = .ok (.aload_n 0, 1) := by decide +kernel
theorem dX7_falls_50 : decode cX7_falls 50 = .ok (.getfield 42, 3) := by decide +kernel
theorem dX7_falls_53 : decode cX7_falls 53 = .ok (.iload_n 3, 1) := by decide +kernel
theorem dX7_falls_54 : decode cX7_falls 54 = .ok (.invokevirtual 221, 3) := by decide +kernel
theorem dX7_falls_57 : decode cX7_falls 57 = .ok (.ifCond .eq 6, 3) := by decide +kernel
theorem dX7_falls_60 : decode cX7_falls 60 = .ok (.iload 4, 2) := by decide +kernel
theorem dX7_falls_62 : decode cX7_falls 62 = .ok (.ireturn, 1) := by decide +kernel
theorem dX7_falls_63 : decode cX7_falls 63 = .ok (.iinc 4 1, 3) := by decide +kernel
theorem dX7_falls_66 : decode cX7_falls 66 = .ok (.goto (-26), 3) := by decide +kernel
theorem dX7_falls_69 : decode cX7_falls 69 = .ok (.iconst (-1), 1) := by decide +kernel
theorem dX7_falls_70 : decode cX7_falls 70 = .ok (.ireturn, 1) := by decide +kernel
set_option maxRecDepth 100000 in
theorem ggX7_fallsIn_X7_fight : GoodIn wsX7_fallsIn wsX7_fight := goodIn_r _ [83, 1, 84, 8, 85, 86, 37, 87, 88, 89, 90, 20, 21, 22, 5, 23, 24, 25, 26, 27, 28, 29, 30, 13, 31, 15, 32, 33, 34, 35, 36, 38, 102, 103, 104, 105, 106, 107, 108, 109, 110, 111, 112, 113, 114, 115, 116, 117, 118, 119, 120] rfl (by decide +kernel)
set_option maxRecDepth 100000 in
theorem gX7_fallsIn_X7_fight : GoodIn wsX7_fallsIn (wsV RX7 180 RX7 yX7_fight wsX7_fight) := goodIn_app (goodIn_of _ (by decide +kernel)) ggX7_fallsIn_X7_fight
set_option maxRecDepth 100000 in
theorem ggX7_fallsIn_X7_drift : GoodIn wsX7_fallsIn wsX7_drift := goodIn_r _ [94, 84, 88, 89, 37, 90, 51, 52, 53, 13, 54, 55, 42, 43, 5, 44, 45, 46, 47, 48, 49, 50, 102, 103, 104, 105, 106, 107, 108, 109, 110, 111, 112, 113, 114, 115, 116, 117, 118, 119, 120] rfl (by decide +kernel)
set_option maxRecDepth 100000 in
theorem gX7_fallsIn_X7_drift : GoodIn wsX7_fallsIn (wsV RX7 187 RX7 yX7_drift wsX7_drift) := goodIn_app (goodIn_of _ (by decide +kernel)) ggX7_fallsIn_X7_drift
set_option maxRecDepth 100000 in
theorem ggX7_fallsIn_X6_isTunnel : GoodIn wsX7_fallsIn wsX6_isTunnel := goodIn_r _ [54, 55, 116, 117, 118, 119, 120] rfl (by decide +kernel)
set_option maxRecDepth 100000 in
theorem gX7_fallsIn_X6_isTunnel : GoodIn wsX7_fallsIn (wsV RX7 87 RX6 yX6_isTunnel wsX6_isTunnel) := goodIn_app (goodIn_of _ (by decide +kernel)) ggX7_fallsIn_X6_isTunnel
theorem dX7_fallsIn_0 : decode cX7_fallsIn 0 = .ok (.iconst 0, 1) := by decide +kernel
theorem dX7_fallsIn_1 : decode cX7_fallsIn 1 = .ok (.istore_n 3, 1) := by decide +kernel
theorem dX7_fallsIn_2 : decode cX7_fallsIn 2 = .ok (.iload_n 3, 1) := by decide +kernel
theorem dX7_fallsIn_3 : decode cX7_fallsIn 3 = .ok (.aload_n 0, 1) := by decide +kernel
theorem dX7_fallsIn_4 : decode cX7_fallsIn 4 = .ok (.getfield 56, 3) := by decide +kernel
theorem dX7_fallsIn_7 : decode cX7_fallsIn 7 = .ok (.if_icmp .ge 15, 3) := by decide +kernel
theorem dX7_fallsIn_10 : decode cX7_fallsIn 10 = .ok (.aload_n 0, 1) := by decide +kernel
theorem dX7_fallsIn_11 : decode cX7_fallsIn 11 = .ok (.aload_n 1, 1) := by decide +kernel
theorem dX7_fallsIn_12 : decode cX7_fallsIn 12 = .ok (.iload_n 3, 1) := by decide +kernel
theorem dX7_fallsIn_13 : decode cX7_fallsIn 13 = .ok (.invokevirtual 177, 3) := by decide +kernel
theorem dX7_fallsIn_16 : decode cX7_fallsIn 16 = .ok (.iinc 3 1, 3) := by decide +kernel
theorem dX7_fallsIn_19 : decode cX7_fallsIn 19 = .ok (.goto (-17), 3) := by decide +kernel
theorem dX7_fallsIn_22 : decode cX7_fallsIn 22 = .ok (.aload_n 0, 1) := by decide +kernel
theorem dX7_fallsIn_23 : decode cX7_fallsIn 23 = .ok (.aload_n 1, 1) := by decide +kernel
theorem dX7_fallsIn_24 : decode cX7_fallsIn 24 = .ok (.invokevirtual 180, 3) := by decide +kernel
theorem dX7_fallsIn_27 : decode cX7_fallsIn 27 = .ok (.aload_n 0, 1) := by decide +kernel
theorem dX7_fallsIn_28 : decode cX7_fallsIn 28 = .ok (.aload_n 1, 1) := by decide +kernel
theorem dX7_fallsIn_29 : decode cX7_fallsIn 29 = .ok (.invokevirtual 187, 3) := by decide +kernel
theorem dX7_fallsIn_32 : decode cX7_fallsIn 32 = .ok (.iconst 0, 1) := by decide +kernel
theorem dX7_fallsIn_33 : decode cX7_fallsIn 33 = .ok (.istore_n 3, 1) := by decide +kernel
theorem dX7_fallsIn_34 : decode cX7_fallsIn 34 = .ok (.iconst 0, 1) := by decide +kernel
theorem dX7_fallsIn_35 : decode cX7_fallsIn 35 = .ok (.istore 4, 2) := by decide +kernel
theorem dX7_fallsIn_37 : decode cX7_fallsIn 37 = .ok (.iload 4, 2) := by decide +kernel
theorem dX7_fallsIn_39 : decode cX7_fallsIn 39 = .ok (.sipush 144, 3) := by decide +kernel
theorem dX7_fallsIn_42 : decode cX7_fallsIn 42 = .ok (.if_icmp .ge 52, 3) := by decide +kernel
theorem dX7_fallsIn_45 : decode cX7_fallsIn 45 = .ok (.aload_n 1, 1) := by decide +kernel
theorem dX7_fallsIn_46 : decode cX7_fallsIn 46 = .ok (.iload 4, 2) := by decide +kernel
theorem dX7_fallsIn_48 : decode cX7_fallsIn 48 = .ok (.invokevirtual 87, 3) := by decide +kernel
theorem dX7_fallsIn_51 : decode cX7_fallsIn 51 = .ok (.ifCond .eq 37, 3) := by decide +kernel
theorem dX7_fallsIn_54 : decode cX7_fallsIn 54 = .ok (.aload_n 1, 1) := by decide +kernel
theorem dX7_fallsIn_55 : decode cX7_fallsIn 55 = .ok (.iload 4, 2) := by decide +kernel
theorem dX7_fallsIn_57 : decode cX7_fallsIn 57 = .ok (.invokestatic 190, 3) := by decide +kernel
theorem dX7_fallsIn_60 : decode cX7_fallsIn 60 = .ok (.ifCond .ne 6, 3) := by decide +kernel
theorem dX7_fallsIn_63 : decode cX7_fallsIn 63 = .ok (.goto 25, 3) := by decide +kernel
theorem dX7_fallsIn_66 : decode cX7_fallsIn 66 = .ok (.aload_n 0, 1) := by decide +kernel
theorem dX7_fallsIn_67 : decode cX7_fallsIn 67 = .ok (.aload_n 1, 1) := by decide +kernel
theorem dX7_fallsIn_68 : decode cX7_fallsIn 68 = .ok (.iload 4, 2) := by decide +kernel
theorem dX7_fallsIn_70 : decode cX7_fallsIn 70 = .ok (.invokevirtual 193, 3) := by decide +kernel
theorem dX7_fallsIn_73 : decode cX7_fallsIn 73 = .ok (.pop, 1) := by decide +kernel
theorem dX7_fallsIn_74 : decode cX7_fallsIn 74 = .ok (.iload_n 3, 1) := by decide +kernel
theorem dX7_fallsIn_75 : decode cX7_fallsIn 75 = .ok (.iload 4, 2) := by decide +kernel
theorem dX7_fallsIn_77 : decode cX7_fallsIn 77 = .ok (.iload_n 2, 1) := by decide +kernel
theorem dX7_fallsIn_78 : decode cX7_fallsIn 78 = .ok (.if_icmp .ne 7, 3) := by decide +kernel
theorem dX7_fallsIn_81 : decode cX7_fallsIn 81 = .ok (.iconst 1, 1) := by decide +kernel
theorem dX7_fallsIn_82 : decode cX7_fallsIn 82 = .ok (.goto 4, 3) := by decide +kernel
theorem dX7_fallsIn_85 : decode cX7_fallsIn 85 = .ok (.iconst 0, 1) := by decide +kernel
theorem dX7_fallsIn_86 : decode cX7_fallsIn 86 = .ok (.ior, 1) := by decide +kernel
theorem dX7_fallsIn_87 : decode cX7_fallsIn 87 = .ok (.istore_n 3, 1) := by decide +kernel
theorem dX7_fallsIn_88 : decode cX7_fallsIn 88 = .ok (.iinc 4 1, 3) := by decide +kernel
theorem dX7_fallsIn_91 : decode cX7_fallsIn 91 = .ok (.goto (-54), 3) := by decide +kernel
theorem dX7_fallsIn_94 : decode cX7_fallsIn 94 = .ok (.aload_n 1, 1) := by decide +kernel
theorem dX7_fallsIn_95 : decode cX7_fallsIn 95 = .ok (.dup, 1) := by decide +kernel
theorem dX7_fallsIn_96 : decode cX7_fallsIn 96 = .ok (.getfield 171, 3) := by decide +kernel
theorem dX7_fallsIn_99 : decode cX7_fallsIn 99 = .ok (.iconst 1, 1) := by decide +kernel
theorem dX7_fallsIn_100 : decode cX7_fallsIn 100 = .ok (.iadd, 1) := by decide +kernel
theorem dX7_fallsIn_101 : decode cX7_fallsIn 101 = .ok (.putfield 171, 3) := by decide +kernel
theorem dX7_fallsIn_104 : decode cX7_fallsIn 104 = .ok (.iload_n 3, 1) := by decide +kernel
theorem dX7_fallsIn_105 : decode cX7_fallsIn 105 = .ok (.ireturn, 1) := by decide +kernel
set_option maxRecDepth 100000 in
theorem ggX7_lasts_X7_isTeam : GoodIn wsX7_lasts wsX7_isTeam := goodIn_r _ [8, 9, 10, 11, 7, 12, 132, 133, 134, 135, 136, 137, 138, 139, 140, 141, 142, 143, 144, 145] rfl (by decide +kernel)
set_option maxRecDepth 100000 in
theorem gX7_lasts_X7_isTeam : GoodIn wsX7_lasts (wsV RX7 110 RX7 yX7_isTeam wsX7_isTeam) := goodIn_app (goodIn_of _ (by decide +kernel)) ggX7_lasts_X7_isTeam
set_option maxRecDepth 100000 in
theorem ggX7_lasts_X7_no : GoodIn wsX7_lasts wsX7_no := goodIn_r _ [16, 1, 132, 133, 134, 135, 136, 137, 138, 139, 140, 141, 142, 143, 144, 145] rfl (by decide +kernel)
set_option maxRecDepth 100000 in
theorem gX7_lasts_X7_no : GoodIn wsX7_lasts (wsV RX7 72 RX7 yX7_no wsX7_no) := goodIn_app (goodIn_of _ (by decide +kernel)) ggX7_lasts_X7_no
theorem dX7_lasts_0 : decode cX7_lasts 0 = .ok (.aload_n 0, 1) := by decide +kernel
theorem dX7_lasts_1 : decode cX7_lasts 1 = .ok (.iconst 0, 1) := by decide +kernel
theorem dX7_lasts_2 : decode cX7_lasts 2 = .ok (.putfield 48, 3) := by decide +kernel
theorem dX7_lasts_5 : decode cX7_lasts 5 = .ok (.aload_n 0, 1) := by decide +kernel
theorem dX7_lasts_6 : decode cX7_lasts 6 = .ok (.iload_n 1, 1) := by decide +kernel
theorem dX7_lasts_7 : decode cX7_lasts 7 = .ok (.invokevirtual 110, 3) := by decide +kernel
theorem dX7_lasts_10 : decode cX7_lasts 10 = .ok (.ifCond .ne 9, 3) := by decide +kernel
theorem dX7_lasts_13 : decode cX7_lasts 13 = .ok (.aload_n 0, 1) := by decide +kernel
theorem dX7_lasts_14 : decode cX7_lasts 14 = .ok (.iconst 1, 1) := by decide +kernel
theorem dX7_lasts_15 : decode cX7_lasts 15 = .ok (.invokevirtual 72, 3) := by decide +kernel
theorem dX7_lasts_18 : decode cX7_lasts 18 = .ok (.ireturn, 1) := by decide +kernel
theorem dX7_lasts_19 : decode cX7_lasts 19 = .ok (.aload_n 0, 1) := by decide +kernel
theorem dX7_lasts_20 : decode cX7_lasts 20 = .ok (.getfield 42, 3) := by decide +kernel
theorem dX7_lasts_23 : decode cX7_lasts 23 = .ok (.aload_n 0, 1) := by decide +kernel
theorem dX7_lasts_24 : decode cX7_lasts 24 = .ok (.getfield 38, 3) := by decide +kernel
theorem dX7_lasts_27 : decode cX7_lasts 27 = .ok (.invokevirtual 218, 3) := by decide +kernel
theorem dX7_lasts_30 : decode cX7_lasts 30 = .ok (.iconst 0, 1) := by decide +kernel
theorem dX7_lasts_31 : decode cX7_lasts 31 = .ok (.istore_n 2, 1) := by decide +kernel
theorem dX7_lasts_32 : decode cX7_lasts 32 = .ok (.iload_n 2, 1) := by decide +kernel
theorem dX7_lasts_33 : decode cX7_lasts 33 = .ok (.sipush 150, 3) := by decide +kernel
theorem dX7_lasts_36 : decode cX7_lasts 36 = .ok (.if_icmp .gt 31, 3) := by decide +kernel
theorem dX7_lasts_39 : decode cX7_lasts 39 = .ok (.aload_n 0, 1) := by decide +kernel
theorem dX7_lasts_40 : decode cX7_lasts 40 = .ok (.getfield 42, 3) := by decide +kernel
theorem dX7_lasts_43 : decode cX7_lasts 43 = .ok (.iload_n 1, 1) := by decide +kernel
theorem dX7_lasts_44 : decode cX7_lasts 44 = .ok (.invokevirtual 113, 3) := by decide +kernel
theorem dX7_lasts_47 : decode cX7_lasts 47 = .ok (.ifCond .eq 5, 3) := by decide +kernel
theorem dX7_lasts_50 : decode cX7_lasts 50 = .ok (.iload_n 2, 1) := by decide +kernel
theorem dX7_lasts_51 : decode cX7_lasts 51 = .ok (.ireturn, 1) := by decide +kernel
theorem dX7_lasts_52 : decode cX7_lasts 52 = .ok (.aload_n 0, 1) := by decide +kernel
theorem dX7_lasts_53 : decode cX7_lasts 53 = .ok (.aload_n 0, 1) := by decide +kernel
theorem dX7_lasts_54 : decode cX7_lasts 54 = .ok (.getfield 42, 3) := by decide +kernel
theorem dX7_lasts_57 : decode cX7_lasts 57 = .ok (.invokevirtual 197, 3) := by decide +kernel
theorem dX7_lasts_60 : decode cX7_lasts 60 = .ok (.pop, 1) := by decide +kernel
theorem dX7_lasts_61 : decode cX7_lasts 61 = .ok (.iinc 2 1, 3) := by decide +kernel
theorem dX7_lasts_64 : decode cX7_lasts 64 = .ok (.goto (-32), 3) := by decide +kernel
theorem dX7_lasts_67 : decode cX7_lasts 67 = .ok (.iconst (-1), 1) := by decide +kernel
theorem dX7_lasts_68 : decode cX7_lasts 68 = .ok (.ireturn, 1) := by decide +kernel
set_option maxRecDepth 100000 in
theorem ggX7_advise_X7_isTeam : GoodIn wsX7_advise wsX7_isTeam := goodIn_r _ [8, 9, 10, 11, 7, 12, 142, 143, 144, 145, 146, 147, 148, 149, 150, 151, 152, 153, 154, 155] rfl (by decide +kernel)
set_option maxRecDepth 100000 in
theorem gX7_advise_X7_isTeam : GoodIn wsX7_advise (wsV RX7 110 RX7 yX7_isTeam wsX7_isTeam) := goodIn_app (goodIn_of _ (by decide +kernel)) ggX7_advise_X7_isTeam
set_option maxRecDepth 100000 in
theorem ggX7_advise_X7_no : GoodIn wsX7_advise wsX7_no := goodIn_r _ [16, 1, 142, 143, 144, 145, 146, 147, 148, 149, 150, 151, 152, 153, 154, 155] rfl (by decide +kernel)
set_option maxRecDepth 100000 in
theorem gX7_advise_X7_no : GoodIn wsX7_advise (wsV RX7 72 RX7 yX7_no wsX7_no) := goodIn_app (goodIn_of _ (by decide +kernel)) ggX7_advise_X7_no
theorem dX7_advise_0 : decode cX7_advise 0 = .ok (.aload_n 0, 1) := by decide +kernel
theorem dX7_advise_1 : decode cX7_advise 1 = .ok (.iconst 0, 1) := by decide +kernel
theorem dX7_advise_2 : decode cX7_advise 2 = .ok (.putfield 48, 3) := by decide +kernel
theorem dX7_advise_5 : decode cX7_advise 5 = .ok (.aload_n 0, 1) := by decide +kernel
theorem dX7_advise_6 : decode cX7_advise 6 = .ok (.iload_n 1, 1) := by decide +kernel
theorem dX7_advise_7 : decode cX7_advise 7 = .ok (.invokevirtual 110, 3) := by decide +kernel
theorem dX7_advise_10 : decode cX7_advise 10 = .ok (.ifCond .ne 9, 3) := by decide +kernel
theorem dX7_advise_13 : decode cX7_advise 13 = .ok (.aload_n 0, 1) := by decide +kernel
theorem dX7_advise_14 : decode cX7_advise 14 = .ok (.iconst 1, 1) := by decide +kernel
theorem dX7_advise_15 : decode cX7_advise 15 = .ok (.invokevirtual 72, 3) := by decide +kernel
theorem dX7_advise_18 : decode cX7_advise 18 = .ok (.ireturn, 1) := by decide +kernel
theorem dX7_advise_19 : decode cX7_advise 19 = .ok (.iload_n 2, 1) := by decide +kernel
theorem dX7_advise_20 : decode cX7_advise 20 = .ok (.iconst 1, 1) := by decide +kernel
theorem dX7_advise_21 : decode cX7_advise 21 = .ok (.bipush 60, 2) := by decide +kernel
theorem dX7_advise_23 : decode cX7_advise 23 = .ok (.invokestatic 52, 3) := by decide +kernel
theorem dX7_advise_26 : decode cX7_advise 26 = .ok (.ifCond .ne 9, 3) := by decide +kernel
theorem dX7_advise_29 : decode cX7_advise 29 = .ok (.aload_n 0, 1) := by decide +kernel
theorem dX7_advise_30 : decode cX7_advise 30 = .ok (.iconst 2, 1) := by decide +kernel
theorem dX7_advise_31 : decode cX7_advise 31 = .ok (.invokevirtual 72, 3) := by decide +kernel
theorem dX7_advise_34 : decode cX7_advise 34 = .ok (.ireturn, 1) := by decide +kernel
theorem dX7_advise_35 : decode cX7_advise 35 = .ok (.aload_n 0, 1) := by decide +kernel
theorem dX7_advise_36 : decode cX7_advise 36 = .ok (.getfield 38, 3) := by decide +kernel
theorem dX7_advise_39 : decode cX7_advise 39 = .ok (.iload_n 1, 1) := by decide +kernel
theorem dX7_advise_40 : decode cX7_advise 40 = .ok (.invokevirtual 113, 3) := by decide +kernel
theorem dX7_advise_43 : decode cX7_advise 43 = .ok (.ifCond .eq 5, 3) := by decide +kernel
theorem dX7_advise_46 : decode cX7_advise 46 = .ok (.iconst (-1), 1) := by decide +kernel
theorem dX7_advise_47 : decode cX7_advise 47 = .ok (.ireturn, 1) := by decide +kernel
theorem dX7_advise_48 : decode cX7_advise 48 = .ok (.iconst (-1), 1) := by decide +kernel
theorem dX7_advise_49 : decode cX7_advise 49 = .ok (.istore_n 3, 1) := by decide +kernel
theorem dX7_advise_50 : decode cX7_advise 50 = .ok (.iconst (-1), 1) := by decide +kernel
theorem dX7_advise_51 : decode cX7_advise 51 = .ok (.istore 4, 2) := by decide +kernel
theorem dX7_advise_53 : decode cX7_advise 53 = .ok (.iconst 0, 1) := by decide +kernel
theorem dX7_advise_54 : decode cX7_advise 54 = .ok (.istore 5, 2) := by decide +kernel
theorem dX7_advise_56 : decode cX7_advise 56 = .ok (.iload 5, 2) := by decide +kernel
theorem dX7_advise_58 : decode cX7_advise 58 = .ok (.iconst 4, 1) := by decide +kernel
theorem dX7_advise_59 : decode cX7_advise 59 = .ok (.if_icmp .ge 85, 3) := by decide +kernel
theorem dX7_advise_62 : decode cX7_advise 62 = .ok (.aload_n 0, 1) := by decide +kernel
theorem dX7_advise_63 : decode cX7_advise 63 = .ok (.getfield 42, 3) := by decide +kernel
theorem dX7_advise_66 : decode cX7_advise 66 = .ok (.aload_n 0, 1) := by decide +kernel
theorem dX7_advise_67 : decode cX7_advise 67 = .ok (.getfield 38, 3) := by decide +kernel
theorem dX7_advise_70 : decode cX7_advise 70 = .ok (.invokevirtual 218, 3) := by decide +kernel
theorem dX7_advise_73 : decode cX7_advise 73 = .ok (.aload_n 0, 1) := by decide +kernel
theorem dX7_advise_74 : decode cX7_advise 74 = .ok (.getfield 42, 3) := by decide +kernel
theorem dX7_advise_77 : decode cX7_advise 77 = .ok (.getfield 98, 3) := by decide +kernel
theorem dX7_advise_80 : decode cX7_advise 80 = .ok (.bipush 10, 2) := by decide +kernel
theorem dX7_advise_82 : decode cX7_advise 82 = .ok (.iload_n 1, 1) := by decide +kernel
theorem dX7_advise_83 : decode cX7_advise 83 = .ok (.imul, 1) := by decide +kernel
theorem dX7_advise_84 : decode cX7_advise 84 = .ok (.iconst 4, 1) := by decide +kernel
theorem dX7_advise_85 : decode cX7_advise 85 = .ok (.iadd, 1) := by decide +kernel
theorem dX7_advise_86 : decode cX7_advise 86 = .ok (.iconst 0, 1) := by decide +kernel
theorem dX7_advise_87 : decode cX7_advise 87 = .ok (.iastore, 1) := by decide +kernel
theorem dX7_advise_88 : decode cX7_advise 88 = .ok (.aload_n 0, 1) := by decide +kernel
theorem dX7_advise_89 : decode cX7_advise 89 = .ok (.getfield 42, 3) := by decide +kernel
theorem dX7_advise_92 : decode cX7_advise 92 = .ok (.iload_n 1, 1) := by decide +kernel
theorem dX7_advise_93 : decode cX7_advise 93 = .ok (.iconst 1, 1) := by decide +kernel
theorem dX7_advise_94 : decode cX7_advise 94 = .ok (.iload 5, 2) := by decide +kernel
theorem dX7_advise_96 : decode cX7_advise 96 = .ok (.bipush 20, 2) := by decide +kernel
theorem dX7_advise_98 : decode cX7_advise 98 = .ok (.invokestatic 116, 3) := by decide +kernel
theorem dX7_advise_101 : decode cX7_advise 101 = .ok (.aload_n 0, 1) := by decide +kernel
theorem dX7_advise_102 : decode cX7_advise 102 = .ok (.aload_n 0, 1) := by decide +kernel
theorem dX7_advise_103 : decode cX7_advise 103 = .ok (.getfield 42, 3) := by decide +kernel
theorem dX7_advise_106 : decode cX7_advise 106 = .ok (.iload_n 2, 1) := by decide +kernel
theorem dX7_advise_107 : decode cX7_advise 107 = .ok (.invokevirtual 200, 3) := by decide +kernel
theorem dX7_advise_110 : decode cX7_advise 110 = .ok (.pop, 1) := by decide +kernel
theorem dX7_advise_111 : decode cX7_advise 111 = .ok (.aload_n 0, 1) := by decide +kernel
theorem dX7_advise_112 : decode cX7_advise 112 = .ok (.getfield 42, 3) := by decide +kernel
theorem dX7_advise_115 : decode cX7_advise 115 = .ok (.invokestatic 205, 3) := by decide +kernel
theorem dX7_advise_118 : decode cX7_advise 118 = .ok (.iload 4, 2) := by decide +kernel
theorem dX7_advise_120 : decode cX7_advise 120 = .ok (.if_icmp .gt 6, 3) := by decide +kernel
theorem dX7_advise_123 : decode cX7_advise 123 = .ok (.goto 15, 3) := by decide +kernel
theorem dX7_advise_126 : decode cX7_advise 126 = .ok (.iload 5, 2) := by decide +kernel
theorem dX7_advise_128 : decode cX7_advise 128 = .ok (.istore_n 3, 1) := by decide +kernel
theorem dX7_advise_129 : decode cX7_advise 129 = .ok (.aload_n 0, 1) := by decide +kernel
theorem dX7_advise_130 : decode cX7_advise 130 = .ok (.getfield 42, 3) := by decide +kernel
theorem dX7_advise_133 : decode cX7_advise 133 = .ok (.invokestatic 205, 3) := by decide +kernel
theorem dX7_advise_136 : decode cX7_advise 136 = .ok (.istore 4, 2) := by decide +kernel
theorem dX7_advise_138 : decode cX7_advise 138 = .ok (.iinc 5 1, 3) := by decide +kernel
theorem dX7_advise_141 : decode cX7_advise 141 = .ok (.goto (-85), 3) := by decide +kernel
theorem dX7_advise_144 : decode cX7_advise 144 = .ok (.iload_n 3, 1) := by decide +kernel
theorem dX7_advise_145 : decode cX7_advise 145 = .ok (.ireturn, 1) := by decide +kernel
set_option maxRecDepth 100000 in
theorem ggX7_drawn_X6_isTunnel : GoodIn wsX7_drawn wsX6_isTunnel := goodIn_r _ [16, 17, 32, 33, 34, 35, 36] rfl (by decide +kernel)
set_option maxRecDepth 100000 in
theorem gX7_drawn_X6_isTunnel : GoodIn wsX7_drawn (wsV RX7 87 RX6 yX6_isTunnel wsX6_isTunnel) := goodIn_app (goodIn_of _ (by decide +kernel)) ggX7_drawn_X6_isTunnel
theorem dX7_drawn_0 : decode cX7_drawn 0 = .ok (.iconst 0, 1) := by decide +kernel
theorem dX7_drawn_1 : decode cX7_drawn 1 = .ok (.istore_n 2, 1) := by decide +kernel
theorem dX7_drawn_2 : decode cX7_drawn 2 = .ok (.iload_n 2, 1) := by decide +kernel
theorem dX7_drawn_3 : decode cX7_drawn 3 = .ok (.aload_n 0, 1) := by decide +kernel
theorem dX7_drawn_4 : decode cX7_drawn 4 = .ok (.getfield 56, 3) := by decide +kernel
theorem dX7_drawn_7 : decode cX7_drawn 7 = .ok (.if_icmp .ge 48, 3) := by decide +kernel
theorem dX7_drawn_10 : decode cX7_drawn 10 = .ok (.aload_n 0, 1) := by decide +kernel
theorem dX7_drawn_11 : decode cX7_drawn 11 = .ok (.getfield 38, 3) := by decide +kernel
theorem dX7_drawn_14 : decode cX7_drawn 14 = .ok (.iload_n 2, 1) := by decide +kernel
theorem dX7_drawn_15 : decode cX7_drawn 15 = .ok (.invokevirtual 113, 3) := by decide +kernel
theorem dX7_drawn_18 : decode cX7_drawn 18 = .ok (.ifCond .ne 31, 3) := by decide +kernel
theorem dX7_drawn_21 : decode cX7_drawn 21 = .ok (.aload_n 0, 1) := by decide +kernel
theorem dX7_drawn_22 : decode cX7_drawn 22 = .ok (.getfield 38, 3) := by decide +kernel
theorem dX7_drawn_25 : decode cX7_drawn 25 = .ok (.iload_n 2, 1) := by decide +kernel
theorem dX7_drawn_26 : decode cX7_drawn 26 = .ok (.invokevirtual 120, 3) := by decide +kernel
theorem dX7_drawn_29 : decode cX7_drawn 29 = .ok (.iload_n 1, 1) := by decide +kernel
theorem dX7_drawn_30 : decode cX7_drawn 30 = .ok (.if_icmp .ne 19, 3) := by decide +kernel
theorem dX7_drawn_33 : decode cX7_drawn 33 = .ok (.bipush 48, 2) := by decide +kernel
theorem dX7_drawn_35 : decode cX7_drawn 35 = .ok (.aload_n 0, 1) := by decide +kernel
theorem dX7_drawn_36 : decode cX7_drawn 36 = .ok (.getfield 38, 3) := by decide +kernel
theorem dX7_drawn_39 : decode cX7_drawn 39 = .ok (.getfield 98, 3) := by decide +kernel
theorem dX7_drawn_42 : decode cX7_drawn 42 = .ok (.bipush 10, 2) := by decide +kernel
theorem dX7_drawn_44 : decode cX7_drawn 44 = .ok (.iload_n 2, 1) := by decide +kernel
theorem dX7_drawn_45 : decode cX7_drawn 45 = .ok (.imul, 1) := by decide +kernel
theorem dX7_drawn_46 : decode cX7_drawn 46 = .ok (.iaload, 1) := by decide +kernel
theorem dX7_drawn_47 : decode cX7_drawn 47 = .ok (.iadd, 1) := by decide +kernel
theorem dX7_drawn_48 : decode cX7_drawn 48 = .ok (.ireturn, 1) := by decide +kernel
theorem dX7_drawn_49 : decode cX7_drawn 49 = .ok (.iinc 2 1, 3) := by decide +kernel
theorem dX7_drawn_52 : decode cX7_drawn 52 = .ok (.goto (-50), 3) := by decide +kernel
theorem dX7_drawn_55 : decode cX7_drawn 55 = .ok (.aload_n 0, 1) := by decide +kernel
theorem dX7_drawn_56 : decode cX7_drawn 56 = .ok (.getfield 38, 3) := by decide +kernel
theorem dX7_drawn_59 : decode cX7_drawn 59 = .ok (.getfield 45, 3) := by decide +kernel
theorem dX7_drawn_62 : decode cX7_drawn 62 = .ok (.bipush 8, 2) := by decide +kernel
theorem dX7_drawn_64 : decode cX7_drawn 64 = .ok (.iload_n 1, 1) := by decide +kernel
theorem dX7_drawn_65 : decode cX7_drawn 65 = .ok (.imul, 1) := by decide +kernel
theorem dX7_drawn_66 : decode cX7_drawn 66 = .ok (.iconst 1, 1) := by decide +kernel
theorem dX7_drawn_67 : decode cX7_drawn 67 = .ok (.iadd, 1) := by decide +kernel
theorem dX7_drawn_68 : decode cX7_drawn 68 = .ok (.iaload, 1) := by decide +kernel
theorem dX7_drawn_69 : decode cX7_drawn 69 = .ok (.istore_n 2, 1) := by decide +kernel
theorem dX7_drawn_70 : decode cX7_drawn 70 = .ok (.iload_n 2, 1) := by decide +kernel
theorem dX7_drawn_71 : decode cX7_drawn 71 = .ok (.ifCond .ne 6, 3) := by decide +kernel
theorem dX7_drawn_74 : decode cX7_drawn 74 = .ok (.bipush 88, 2) := by decide +kernel
theorem dX7_drawn_76 : decode cX7_drawn 76 = .ok (.ireturn, 1) := by decide +kernel
theorem dX7_drawn_77 : decode cX7_drawn 77 = .ok (.iload_n 2, 1) := by decide +kernel
theorem dX7_drawn_78 : decode cX7_drawn 78 = .ok (.ifCond .le 22, 3) := by decide +kernel
theorem dX7_drawn_81 : decode cX7_drawn 81 = .ok (.aload_n 0, 1) := by decide +kernel
theorem dX7_drawn_82 : decode cX7_drawn 82 = .ok (.getfield 38, 3) := by decide +kernel
theorem dX7_drawn_85 : decode cX7_drawn 85 = .ok (.iload_n 1, 1) := by decide +kernel
theorem dX7_drawn_86 : decode cX7_drawn 86 = .ok (.invokevirtual 87, 3) := by decide +kernel
theorem dX7_drawn_89 : decode cX7_drawn 89 = .ok (.ifCond .eq 8, 3) := by decide +kernel
theorem dX7_drawn_92 : decode cX7_drawn 92 = .ok (.bipush 119, 2) := by decide +kernel
theorem dX7_drawn_94 : decode cX7_drawn 94 = .ok (.goto 5, 3) := by decide +kernel
theorem dX7_drawn_97 : decode cX7_drawn 97 = .ok (.bipush 87, 2) := by decide +kernel
theorem dX7_drawn_99 : decode cX7_drawn 99 = .ok (.ireturn, 1) := by decide +kernel
theorem dX7_drawn_100 : decode cX7_drawn 100 = .ok (.aload_n 0, 1) := by decide +kernel
theorem dX7_drawn_101 : decode cX7_drawn 101 = .ok (.getfield 38, 3) := by decide +kernel
theorem dX7_drawn_104 : decode cX7_drawn 104 = .ok (.getfield 45, 3) := by decide +kernel
theorem dX7_drawn_107 : decode cX7_drawn 107 = .ok (.bipush 8, 2) := by decide +kernel
theorem dX7_drawn_109 : decode cX7_drawn 109 = .ok (.iload_n 1, 1) := by decide +kernel
theorem dX7_drawn_110 : decode cX7_drawn 110 = .ok (.imul, 1) := by decide +kernel
theorem dX7_drawn_111 : decode cX7_drawn 111 = .ok (.iaload, 1) := by decide +kernel
theorem dX7_drawn_112 : decode cX7_drawn 112 = .ok (.ifCond .ne 6, 3) := by decide +kernel
theorem dX7_drawn_115 : decode cX7_drawn 115 = .ok (.bipush 35, 2) := by decide +kernel
theorem dX7_drawn_117 : decode cX7_drawn 117 = .ok (.ireturn, 1) := by decide +kernel
theorem dX7_drawn_118 : decode cX7_drawn 118 = .ok (.aload_n 0, 1) := by decide +kernel
theorem dX7_drawn_119 : decode cX7_drawn 119 = .ok (.getfield 38, 3) := by decide +kernel
theorem dX7_drawn_122 : decode cX7_drawn 122 = .ok (.iload_n 1, 1) := by decide +kernel
theorem dX7_drawn_123 : decode cX7_drawn 123 = .ok (.invokevirtual 87, 3) := by decide +kernel
theorem dX7_drawn_126 : decode cX7_drawn 126 = .ok (.ifCond .eq 28, 3) := by decide +kernel
theorem dX7_drawn_129 : decode cX7_drawn 129 = .ok (.aload_n 0, 1) := by decide +kernel
theorem dX7_drawn_130 : decode cX7_drawn 130 = .ok (.getfield 38, 3) := by decide +kernel
theorem dX7_drawn_133 : decode cX7_drawn 133 = .ok (.getfield 45, 3) := by decide +kernel
theorem dX7_drawn_136 : decode cX7_drawn 136 = .ok (.bipush 8, 2) := by decide +kernel
theorem dX7_drawn_138 : decode cX7_drawn 138 = .ok (.iload_n 1, 1) := by decide +kernel
theorem dX7_drawn_139 : decode cX7_drawn 139 = .ok (.imul, 1) := by decide +kernel
theorem dX7_drawn_140 : decode cX7_drawn 140 = .ok (.iconst 5, 1) := by decide +kernel
theorem dX7_drawn_141 : decode cX7_drawn 141 = .ok (.iadd, 1) := by decide +kernel
theorem dX7_drawn_142 : decode cX7_drawn 142 = .ok (.iaload, 1) := by decide +kernel
theorem dX7_drawn_143 : decode cX7_drawn 143 = .ok (.ifCond .le 8, 3) := by decide +kernel
theorem dX7_drawn_146 : decode cX7_drawn 146 = .ok (.bipush 42, 2) := by decide +kernel
theorem dX7_drawn_148 : decode cX7_drawn 148 = .ok (.goto 5, 3) := by decide +kernel
theorem dX7_drawn_151 : decode cX7_drawn 151 = .ok (.bipush 46, 2) := by decide +kernel
theorem dX7_drawn_153 : decode cX7_drawn 153 = .ok (.ireturn, 1) := by decide +kernel
theorem dX7_drawn_154 : decode cX7_drawn 154 = .ok (.bipush 48, 2) := by decide +kernel
theorem dX7_drawn_156 : decode cX7_drawn 156 = .ok (.aload_n 0, 1) := by decide +kernel
theorem dX7_drawn_157 : decode cX7_drawn 157 = .ok (.getfield 38, 3) := by decide +kernel
theorem dX7_drawn_160 : decode cX7_drawn 160 = .ok (.getfield 45, 3) := by decide +kernel
theorem dX7_drawn_163 : decode cX7_drawn 163 = .ok (.bipush 8, 2) := by decide +kernel
theorem dX7_drawn_165 : decode cX7_drawn 165 = .ok (.iload_n 1, 1) := by decide +kernel
theorem dX7_drawn_166 : decode cX7_drawn 166 = .ok (.imul, 1) := by decide +kernel
theorem dX7_drawn_167 : decode cX7_drawn 167 = .ok (.iaload, 1) := by decide +kernel
theorem dX7_drawn_168 : decode cX7_drawn 168 = .ok (.iadd, 1) := by decide +kernel
theorem dX7_drawn_169 : decode cX7_drawn 169 = .ok (.ireturn, 1) := by decide +kernel
set_option maxRecDepth 100000 in
theorem ggX7_draw_X7_drawn : GoodIn wsX7_draw wsX7_drawn := goodIn_r _ [8, 9, 10, 11, 12, 13, 14, 15, 16, 17, 18, 19, 20, 21, 22, 23, 24, 25, 26, 27, 28, 29, 30, 31, 32, 33, 34, 35, 36, 37, 38, 39, 40, 41, 42, 43, 44] rfl (by decide +kernel)
set_option maxRecDepth 100000 in
theorem gX7_draw_X7_drawn : GoodIn wsX7_draw (wsV RX7 224 RX7 yX7_drawn wsX7_drawn) := goodIn_app (goodIn_of _ (by decide +kernel)) ggX7_draw_X7_drawn
theorem dX7_draw_0 : decode cX7_draw 0 = .ok (.aload_n 0, 1) := by decide +kernel
theorem dX7_draw_1 : decode cX7_draw 1 = .ok (.iconst 0, 1) := by decide +kernel
theorem dX7_draw_2 : decode cX7_draw 2 = .ok (.putfield 48, 3) := by decide +kernel
theorem dX7_draw_5 : decode cX7_draw 5 = .ok (.iconst 0, 1) := by decide +kernel
theorem dX7_draw_6 : decode cX7_draw 6 = .ok (.istore_n 1, 1) := by decide +kernel
theorem dX7_draw_7 : decode cX7_draw 7 = .ok (.iload_n 1, 1) := by decide +kernel
theorem dX7_draw_8 : decode cX7_draw 8 = .ok (.sipush 156, 3) := by decide +kernel
theorem dX7_draw_11 : decode cX7_draw 11 = .ok (.if_icmp .ge 45, 3) := by decide +kernel
theorem dX7_draw_14 : decode cX7_draw 14 = .ok (.aload_n 0, 1) := by decide +kernel
theorem dX7_draw_15 : decode cX7_draw 15 = .ok (.getfield 13, 3) := by decide +kernel
theorem dX7_draw_18 : decode cX7_draw 18 = .ok (.iload_n 1, 1) := by decide +kernel
theorem dX7_draw_19 : decode cX7_draw 19 = .ok (.iload_n 1, 1) := by decide +kernel
theorem dX7_draw_20 : decode cX7_draw 20 = .ok (.bipush 13, 2) := by decide +kernel
theorem dX7_draw_22 : decode cX7_draw 22 = .ok (.irem, 1) := by decide +kernel
theorem dX7_draw_23 : decode cX7_draw 23 = .ok (.bipush 12, 2) := by decide +kernel
theorem dX7_draw_25 : decode cX7_draw 25 = .ok (.if_icmp .ne 8, 3) := by decide +kernel
theorem dX7_draw_28 : decode cX7_draw 28 = .ok (.bipush 10, 2) := by decide +kernel
theorem dX7_draw_30 : decode cX7_draw 30 = .ok (.goto 19, 3) := by decide +kernel
theorem dX7_draw_33 : decode cX7_draw 33 = .ok (.aload_n 0, 1) := by decide +kernel
theorem dX7_draw_34 : decode cX7_draw 34 = .ok (.bipush 12, 2) := by decide +kernel
theorem dX7_draw_36 : decode cX7_draw 36 = .ok (.iload_n 1, 1) := by decide +kernel
theorem dX7_draw_37 : decode cX7_draw 37 = .ok (.bipush 13, 2) := by decide +kernel
theorem dX7_draw_39 : decode cX7_draw 39 = .ok (.idiv, 1) := by decide +kernel
theorem dX7_draw_40 : decode cX7_draw 40 = .ok (.imul, 1) := by decide +kernel
theorem dX7_draw_41 : decode cX7_draw 41 = .ok (.iload_n 1, 1) := by decide +kernel
theorem dX7_draw_42 : decode cX7_draw 42 = .ok (.bipush 13, 2) := by decide +kernel
theorem dX7_draw_44 : decode cX7_draw 44 = .ok (.irem, 1) := by decide +kernel
theorem dX7_draw_45 : decode cX7_draw 45 = .ok (.iadd, 1) := by decide +kernel
theorem dX7_draw_46 : decode cX7_draw 46 = .ok (.invokevirtual 224, 3) := by decide +kernel
theorem dX7_draw_49 : decode cX7_draw 49 = .ok (.iastore, 1) := by decide +kernel
theorem dX7_draw_50 : decode cX7_draw 50 = .ok (.iinc 1 1, 3) := by decide +kernel
theorem dX7_draw_53 : decode cX7_draw 53 = .ok (.goto (-46), 3) := by decide +kernel
theorem dX7_draw_56 : decode cX7_draw 56 = .ok (.aload_n 0, 1) := by decide +kernel
theorem dX7_draw_57 : decode cX7_draw 57 = .ok (.sipush 156, 3) := by decide +kernel
theorem dX7_draw_60 : decode cX7_draw 60 = .ok (.putfield 208, 3) := by decide +kernel
theorem dX7_draw_63 : decode cX7_draw 63 = .ok (.sipush 156, 3) := by decide +kernel
theorem dX7_draw_66 : decode cX7_draw 66 = .ok (.ireturn, 1) := by decide +kernel
set_option maxRecDepth 100000 in
theorem ggX7_byteAt_X7_isIn : GoodIn wsX7_byteAt wsX7_isIn := goodIn_r _ [7] rfl (by decide +kernel)
set_option maxRecDepth 100000 in
theorem gX7_byteAt_X7_isIn : GoodIn wsX7_byteAt (va_wsS RX7 52 yX7_isIn wsX7_isIn) := goodIn_app (goodIn_of _ (by decide +kernel)) ggX7_byteAt_X7_isIn
set_option maxRecDepth 100000 in
theorem ggX7_byteAt_X7_no : GoodIn wsX7_byteAt wsX7_no := goodIn_r _ [11, 1, 12, 13, 14, 15, 16, 17, 18, 19, 20, 21, 22, 23, 24, 25] rfl (by decide +kernel)
set_option maxRecDepth 100000 in
theorem gX7_byteAt_X7_no : GoodIn wsX7_byteAt (wsV RX7 72 RX7 yX7_no wsX7_no) := goodIn_app (goodIn_of _ (by decide +kernel)) ggX7_byteAt_X7_no
theorem dX7_byteAt_0 : decode cX7_byteAt 0 = .ok (.aload_n 0, 1) := by decide +kernel
theorem dX7_byteAt_1 : decode cX7_byteAt 1 = .ok (.iconst 0, 1) := by decide +kernel
theorem dX7_byteAt_2 : decode cX7_byteAt 2 = .ok (.putfield 48, 3) := by decide +kernel
theorem dX7_byteAt_5 : decode cX7_byteAt 5 = .ok (.iload_n 1, 1) := by decide +kernel
theorem dX7_byteAt_6 : decode cX7_byteAt 6 = .ok (.iconst 0, 1) := by decide +kernel
theorem dX7_byteAt_7 : decode cX7_byteAt 7 = .ok (.aload_n 0, 1) := by decide +kernel
theorem dX7_byteAt_8 : decode cX7_byteAt 8 = .ok (.getfield 208, 3) := by decide +kernel
theorem dX7_byteAt_11 : decode cX7_byteAt 11 = .ok (.iconst 1, 1) := by decide +kernel
theorem dX7_byteAt_12 : decode cX7_byteAt 12 = .ok (.isub, 1) := by decide +kernel
theorem dX7_byteAt_13 : decode cX7_byteAt 13 = .ok (.invokestatic 52, 3) := by decide +kernel
theorem dX7_byteAt_16 : decode cX7_byteAt 16 = .ok (.ifCond .eq 12, 3) := by decide +kernel
theorem dX7_byteAt_19 : decode cX7_byteAt 19 = .ok (.aload_n 0, 1) := by decide +kernel
theorem dX7_byteAt_20 : decode cX7_byteAt 20 = .ok (.getfield 13, 3) := by decide +kernel
theorem dX7_byteAt_23 : decode cX7_byteAt 23 = .ok (.iload_n 1, 1) := by decide +kernel
theorem dX7_byteAt_24 : decode cX7_byteAt 24 = .ok (.iaload, 1) := by decide +kernel
theorem dX7_byteAt_25 : decode cX7_byteAt 25 = .ok (.goto 8, 3) := by decide +kernel
theorem dX7_byteAt_28 : decode cX7_byteAt 28 = .ok (.aload_n 0, 1) := by decide +kernel
theorem dX7_byteAt_29 : decode cX7_byteAt 29 = .ok (.iconst 1, 1) := by decide +kernel
theorem dX7_byteAt_30 : decode cX7_byteAt 30 = .ok (.invokevirtual 72, 3) := by decide +kernel
theorem dX7_byteAt_33 : decode cX7_byteAt 33 = .ok (.ireturn, 1) := by decide +kernel
set_option maxRecDepth 100000 in
theorem ggX7_share_X7_counted : GoodIn wsX7_share wsX7_counted := goodIn_r _ [6, 7, 8, 9, 10, 11, 12, 13, 14, 5, 15, 16, 17, 18, 19, 20, 21, 22, 23, 24, 25, 26, 27, 28, 29, 30, 31, 32, 33, 34, 35, 36, 37, 38, 39, 40, 41, 42, 43] rfl (by decide +kernel)
set_option maxRecDepth 100000 in
theorem gX7_share_X7_counted : GoodIn wsX7_share (wsV RX7 211 RX7 yX7_counted wsX7_counted) := goodIn_app (goodIn_of _ (by decide +kernel)) ggX7_share_X7_counted
theorem dX7_share_0 : decode cX7_share 0 = .ok (.aload_n 0, 1) := by decide +kernel
theorem dX7_share_1 : decode cX7_share 1 = .ok (.iconst 0, 1) := by decide +kernel
theorem dX7_share_2 : decode cX7_share 2 = .ok (.putfield 48, 3) := by decide +kernel
theorem dX7_share_5 : decode cX7_share 5 = .ok (.aload_n 0, 1) := by decide +kernel
theorem dX7_share_6 : decode cX7_share 6 = .ok (.iconst 5, 1) := by decide +kernel
theorem dX7_share_7 : decode cX7_share 7 = .ok (.invokevirtual 211, 3) := by decide +kernel
theorem dX7_share_10 : decode cX7_share 10 = .ok (.istore_n 1, 1) := by decide +kernel
theorem dX7_share_11 : decode cX7_share 11 = .ok (.aload_n 0, 1) := by decide +kernel
theorem dX7_share_12 : decode cX7_share 12 = .ok (.bipush 6, 2) := by decide +kernel
theorem dX7_share_14 : decode cX7_share 14 = .ok (.invokevirtual 211, 3) := by decide +kernel
theorem dX7_share_17 : decode cX7_share 17 = .ok (.istore_n 2, 1) := by decide +kernel
theorem dX7_share_18 : decode cX7_share 18 = .ok (.iload_n 1, 1) := by decide +kernel
theorem dX7_share_19 : decode cX7_share 19 = .ok (.iload_n 2, 1) := by decide +kernel
theorem dX7_share_20 : decode cX7_share 20 = .ok (.iadd, 1) := by decide +kernel
theorem dX7_share_21 : decode cX7_share 21 = .ok (.ifCond .ne 7, 3) := by decide +kernel
theorem dX7_share_24 : decode cX7_share 24 = .ok (.dconst 0, 1) := by decide +kernel
theorem dX7_share_25 : decode cX7_share 25 = .ok (.goto 10, 3) := by decide +kernel
theorem dX7_share_28 : decode cX7_share 28 = .ok (.iload_n 2, 1) := by decide +kernel
theorem dX7_share_29 : decode cX7_share 29 = .ok (.i2d, 1) := by decide +kernel
theorem dX7_share_30 : decode cX7_share 30 = .ok (.iload_n 1, 1) := by decide +kernel
theorem dX7_share_31 : decode cX7_share 31 = .ok (.iload_n 2, 1) := by decide +kernel
theorem dX7_share_32 : decode cX7_share 32 = .ok (.iadd, 1) := by decide +kernel
theorem dX7_share_33 : decode cX7_share 33 = .ok (.i2d, 1) := by decide +kernel
theorem dX7_share_34 : decode cX7_share 34 = .ok (.ddiv, 1) := by decide +kernel
theorem dX7_share_35 : decode cX7_share 35 = .ok (.dreturn, 1) := by decide +kernel
set_option maxRecDepth 100000 in
theorem ggX7_digest_X7_counted : GoodIn wsX7_digest wsX7_counted := goodIn_r _ [12, 4, 5, 13, 14, 6, 15, 16, 17, 11, 18, 19, 20, 21, 22, 23, 24, 25, 26, 27, 36, 37, 38, 39, 40, 41, 42, 43, 44, 45, 46, 47, 48, 49, 50, 51, 52, 53, 54] rfl (by decide +kernel)
set_option maxRecDepth 100000 in
theorem gX7_digest_X7_counted : GoodIn wsX7_digest (wsV RX7 211 RX7 yX7_counted wsX7_counted) := goodIn_app (goodIn_of _ (by decide +kernel)) ggX7_digest_X7_counted
theorem dX7_digest_0 : decode cX7_digest 0 = .ok (.aload_n 0, 1) := by decide +kernel
theorem dX7_digest_1 : decode cX7_digest 1 = .ok (.iconst 0, 1) := by decide +kernel
theorem dX7_digest_2 : decode cX7_digest 2 = .ok (.putfield 48, 3) := by decide +kernel
theorem dX7_digest_5 : decode cX7_digest 5 = .ok (.ldc2_w 227, 3) := by decide +kernel
theorem dX7_digest_8 : decode cX7_digest 8 = .ok (.lstore_n 1, 1) := by decide +kernel
theorem dX7_digest_9 : decode cX7_digest 9 = .ok (.iconst 0, 1) := by decide +kernel
theorem dX7_digest_10 : decode cX7_digest 10 = .ok (.istore_n 3, 1) := by decide +kernel
theorem dX7_digest_11 : decode cX7_digest 11 = .ok (.iload_n 3, 1) := by decide +kernel
theorem dX7_digest_12 : decode cX7_digest 12 = .ok (.bipush 12, 2) := by decide +kernel
theorem dX7_digest_14 : decode cX7_digest 14 = .ok (.if_icmp .ge 22, 3) := by decide +kernel
theorem dX7_digest_17 : decode cX7_digest 17 = .ok (.lload_n 1, 1) := by decide +kernel
theorem dX7_digest_18 : decode cX7_digest 18 = .ok (.ldc2_w 229, 3) := by decide +kernel
theorem dX7_digest_21 : decode cX7_digest 21 = .ok (.lmul, 1) := by decide +kernel
theorem dX7_digest_22 : decode cX7_digest 22 = .ok (.aload_n 0, 1) := by decide +kernel
theorem dX7_digest_23 : decode cX7_digest 23 = .ok (.iload_n 3, 1) := by decide +kernel
theorem dX7_digest_24 : decode cX7_digest 24 = .ok (.invokevirtual 211, 3) := by decide +kernel
theorem dX7_digest_27 : decode cX7_digest 27 = .ok (.i2l, 1) := by decide +kernel
theorem dX7_digest_28 : decode cX7_digest 28 = .ok (.ladd, 1) := by decide +kernel
theorem dX7_digest_29 : decode cX7_digest 29 = .ok (.lstore_n 1, 1) := by decide +kernel
theorem dX7_digest_30 : decode cX7_digest 30 = .ok (.iinc 3 1, 3) := by decide +kernel
theorem dX7_digest_33 : decode cX7_digest 33 = .ok (.goto (-22), 3) := by decide +kernel
theorem dX7_digest_36 : decode cX7_digest 36 = .ok (.iconst 0, 1) := by decide +kernel
theorem dX7_digest_37 : decode cX7_digest 37 = .ok (.istore_n 3, 1) := by decide +kernel
theorem dX7_digest_38 : decode cX7_digest 38 = .ok (.iload_n 3, 1) := by decide +kernel
theorem dX7_digest_39 : decode cX7_digest 39 = .ok (.sipush 1152, 3) := by decide +kernel
theorem dX7_digest_42 : decode cX7_digest 42 = .ok (.if_icmp .ge 26, 3) := by decide +kernel
theorem dX7_digest_45 : decode cX7_digest 45 = .ok (.lload_n 1, 1) := by decide +kernel
theorem dX7_digest_46 : decode cX7_digest 46 = .ok (.ldc2_w 229, 3) := by decide +kernel
theorem dX7_digest_49 : decode cX7_digest 49 = .ok (.lmul, 1) := by decide +kernel
theorem dX7_digest_50 : decode cX7_digest 50 = .ok (.aload_n 0, 1) := by decide +kernel
theorem dX7_digest_51 : decode cX7_digest 51 = .ok (.getfield 38, 3) := by decide +kernel
theorem dX7_digest_54 : decode cX7_digest 54 = .ok (.getfield 45, 3) := by decide +kernel
theorem dX7_digest_57 : decode cX7_digest 57 = .ok (.iload_n 3, 1) := by decide +kernel
theorem dX7_digest_58 : decode cX7_digest 58 = .ok (.iaload, 1) := by decide +kernel
theorem dX7_digest_59 : decode cX7_digest 59 = .ok (.i2l, 1) := by decide +kernel
theorem dX7_digest_60 : decode cX7_digest 60 = .ok (.ladd, 1) := by decide +kernel
theorem dX7_digest_61 : decode cX7_digest 61 = .ok (.lstore_n 1, 1) := by decide +kernel
theorem dX7_digest_62 : decode cX7_digest 62 = .ok (.iinc 3 1, 3) := by decide +kernel
theorem dX7_digest_65 : decode cX7_digest 65 = .ok (.goto (-27), 3) := by decide +kernel
theorem dX7_digest_68 : decode cX7_digest 68 = .ok (.iconst 0, 1) := by decide +kernel
theorem dX7_digest_69 : decode cX7_digest 69 = .ok (.istore_n 3, 1) := by decide +kernel
theorem dX7_digest_70 : decode cX7_digest 70 = .ok (.iload_n 3, 1) := by decide +kernel
theorem dX7_digest_71 : decode cX7_digest 71 = .ok (.aload_n 0, 1) := by decide +kernel
theorem dX7_digest_72 : decode cX7_digest 72 = .ok (.getfield 56, 3) := by decide +kernel
theorem dX7_digest_75 : decode cX7_digest 75 = .ok (.if_icmp .ge 80, 3) := by decide +kernel
theorem dX7_digest_78 : decode cX7_digest 78 = .ok (.iconst 0, 1) := by decide +kernel
theorem dX7_digest_79 : decode cX7_digest 79 = .ok (.istore 4, 2) := by decide +kernel
theorem dX7_digest_81 : decode cX7_digest 81 = .ok (.iload 4, 2) := by decide +kernel
theorem dX7_digest_83 : decode cX7_digest 83 = .ok (.bipush 10, 2) := by decide +kernel
theorem dX7_digest_85 : decode cX7_digest 85 = .ok (.if_icmp .ge 24, 3) := by decide +kernel
theorem dX7_digest_88 : decode cX7_digest 88 = .ok (.lload_n 1, 1) := by decide +kernel
theorem dX7_digest_89 : decode cX7_digest 89 = .ok (.ldc2_w 229, 3) := by decide +kernel
theorem dX7_digest_92 : decode cX7_digest 92 = .ok (.lmul, 1) := by decide +kernel
theorem dX7_digest_93 : decode cX7_digest 93 = .ok (.aload_n 0, 1) := by decide +kernel
theorem dX7_digest_94 : decode cX7_digest 94 = .ok (.iload_n 3, 1) := by decide +kernel
theorem dX7_digest_95 : decode cX7_digest 95 = .ok (.iload 4, 2) := by decide +kernel
theorem dX7_digest_97 : decode cX7_digest 97 = .ok (.invokevirtual 123, 3) := by decide +kernel
theorem dX7_digest_100 : decode cX7_digest 100 = .ok (.i2l, 1) := by decide +kernel
theorem dX7_digest_101 : decode cX7_digest 101 = .ok (.ladd, 1) := by decide +kernel
theorem dX7_digest_102 : decode cX7_digest 102 = .ok (.lstore_n 1, 1) := by decide +kernel
theorem dX7_digest_103 : decode cX7_digest 103 = .ok (.iinc 4 1, 3) := by decide +kernel
theorem dX7_digest_106 : decode cX7_digest 106 = .ok (.goto (-25), 3) := by decide +kernel
theorem dX7_digest_109 : decode cX7_digest 109 = .ok (.bipush 7, 2) := by decide +kernel
theorem dX7_digest_111 : decode cX7_digest 111 = .ok (.istore 4, 2) := by decide +kernel
theorem dX7_digest_113 : decode cX7_digest 113 = .ok (.iload 4, 2) := by decide +kernel
theorem dX7_digest_115 : decode cX7_digest 115 = .ok (.bipush 10, 2) := by decide +kernel
theorem dX7_digest_117 : decode cX7_digest 117 = .ok (.if_icmp .ge 32, 3) := by decide +kernel
theorem dX7_digest_120 : decode cX7_digest 120 = .ok (.lload_n 1, 1) := by decide +kernel
theorem dX7_digest_121 : decode cX7_digest 121 = .ok (.ldc2_w 229, 3) := by decide +kernel
theorem dX7_digest_124 : decode cX7_digest 124 = .ok (.lmul, 1) := by decide +kernel
theorem dX7_digest_125 : decode cX7_digest 125 = .ok (.aload_n 0, 1) := by decide +kernel
theorem dX7_digest_126 : decode cX7_digest 126 = .ok (.getfield 38, 3) := by decide +kernel
theorem dX7_digest_129 : decode cX7_digest 129 = .ok (.getfield 98, 3) := by decide +kernel
theorem dX7_digest_132 : decode cX7_digest 132 = .ok (.bipush 10, 2) := by decide +kernel
theorem dX7_digest_134 : decode cX7_digest 134 = .ok (.iload_n 3, 1) := by decide +kernel
theorem dX7_digest_135 : decode cX7_digest 135 = .ok (.imul, 1) := by decide +kernel
theorem dX7_digest_136 : decode cX7_digest 136 = .ok (.iload 4, 2) := by decide +kernel
theorem dX7_digest_138 : decode cX7_digest 138 = .ok (.iadd, 1) := by decide +kernel
theorem dX7_digest_139 : decode cX7_digest 139 = .ok (.iaload, 1) := by decide +kernel
theorem dX7_digest_140 : decode cX7_digest 140 = .ok (.i2l, 1) := by decide +kernel
theorem dX7_digest_141 : decode cX7_digest 141 = .ok (.ladd, 1) := by decide +kernel
theorem dX7_digest_142 : decode cX7_digest 142 = .ok (.lstore_n 1, 1) := by decide +kernel
theorem dX7_digest_143 : decode cX7_digest 143 = .ok (.iinc 4 1, 3) := by decide +kernel
theorem dX7_digest_146 : decode cX7_digest 146 = .ok (.goto (-33), 3) := by decide +kernel
theorem dX7_digest_149 : decode cX7_digest 149 = .ok (.iinc 3 1, 3) := by decide +kernel
theorem dX7_digest_152 : decode cX7_digest 152 = .ok (.goto (-82), 3) := by decide +kernel
theorem dX7_digest_155 : decode cX7_digest 155 = .ok (.iconst 0, 1) := by decide +kernel
theorem dX7_digest_156 : decode cX7_digest 156 = .ok (.istore_n 3, 1) := by decide +kernel
theorem dX7_digest_157 : decode cX7_digest 157 = .ok (.iload_n 3, 1) := by decide +kernel
theorem dX7_digest_158 : decode cX7_digest 158 = .ok (.aload_n 0, 1) := by decide +kernel
theorem dX7_digest_159 : decode cX7_digest 159 = .ok (.getfield 208, 3) := by decide +kernel
theorem dX7_digest_162 : decode cX7_digest 162 = .ok (.if_icmp .ge 23, 3) := by decide +kernel
theorem dX7_digest_165 : decode cX7_digest 165 = .ok (.lload_n 1, 1) := by decide +kernel
theorem dX7_digest_166 : decode cX7_digest 166 = .ok (.ldc2_w 229, 3) := by decide +kernel
theorem dX7_digest_169 : decode cX7_digest 169 = .ok (.lmul, 1) := by decide +kernel
theorem dX7_digest_170 : decode cX7_digest 170 = .ok (.aload_n 0, 1) := by decide +kernel
theorem dX7_digest_171 : decode cX7_digest 171 = .ok (.getfield 13, 3) := by decide +kernel
theorem dX7_digest_174 : decode cX7_digest 174 = .ok (.iload_n 3, 1) := by decide +kernel
theorem dX7_digest_175 : decode cX7_digest 175 = .ok (.iaload, 1) := by decide +kernel
theorem dX7_digest_176 : decode cX7_digest 176 = .ok (.i2l, 1) := by decide +kernel
theorem dX7_digest_177 : decode cX7_digest 177 = .ok (.ladd, 1) := by decide +kernel
theorem dX7_digest_178 : decode cX7_digest 178 = .ok (.lstore_n 1, 1) := by decide +kernel
theorem dX7_digest_179 : decode cX7_digest 179 = .ok (.iinc 3 1, 3) := by decide +kernel
theorem dX7_digest_182 : decode cX7_digest 182 = .ok (.goto (-25), 3) := by decide +kernel
theorem dX7_digest_185 : decode cX7_digest 185 = .ok (.lload_n 1, 1) := by decide +kernel
theorem dX7_digest_186 : decode cX7_digest 186 = .ok (.lreturn, 1) := by decide +kernel
