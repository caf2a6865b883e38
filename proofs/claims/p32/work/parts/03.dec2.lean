theorem dX10_meanOf_52 : decode cX10_meanOf 52 = .ok (.isub, 1) := by decide +kernel
theorem dX10_meanOf_53 : decode cX10_meanOf 53 = .ok (.iconst 1, 1) := by decide +kernel
theorem dX10_meanOf_54 : decode cX10_meanOf 54 = .ok (.iadd, 1) := by decide +kernel
theorem dX10_meanOf_55 : decode cX10_meanOf 55 = .ok (.idiv, 1) := by decide +kernel
theorem dX10_meanOf_56 : decode cX10_meanOf 56 = .ok (.ireturn, 1) := by decide +kernel
theorem dX10_rainOf_0 : decode cX10_rainOf 0 = .ok (.iconst 0, 1) := by decide +kernel
theorem dX10_rainOf_1 : decode cX10_rainOf 1 = .ok (.istore_n 2, 1) := by decide +kernel
theorem dX10_rainOf_2 : decode cX10_rainOf 2 = .ok (.iload_n 1, 1) := by decide +kernel
theorem dX10_rainOf_3 : decode cX10_rainOf 3 = .ok (.iconst 5, 1) := by decide +kernel
theorem dX10_rainOf_4 : decode cX10_rainOf 4 = .ok (.if_icmp .ge 7, 3) := by decide +kernel
theorem dX10_rainOf_7 : decode cX10_rainOf 7 = .ok (.iconst 0, 1) := by decide +kernel
theorem dX10_rainOf_8 : decode cX10_rainOf 8 = .ok (.goto 8, 3) := by decide +kernel
theorem dX10_rainOf_11 : decode cX10_rainOf 11 = .ok (.iload_n 1, 1) := by decide +kernel
theorem dX10_rainOf_12 : decode cX10_rainOf 12 = .ok (.iconst 5, 1) := by decide +kernel
theorem dX10_rainOf_13 : decode cX10_rainOf 13 = .ok (.isub, 1) := by decide +kernel
theorem dX10_rainOf_14 : decode cX10_rainOf 14 = .ok (.iconst 1, 1) := by decide +kernel
theorem dX10_rainOf_15 : decode cX10_rainOf 15 = .ok (.iadd, 1) := by decide +kernel
theorem dX10_rainOf_16 : decode cX10_rainOf 16 = .ok (.istore_n 3, 1) := by decide +kernel
theorem dX10_rainOf_17 : decode cX10_rainOf 17 = .ok (.iload_n 3, 1) := by decide +kernel
theorem dX10_rainOf_18 : decode cX10_rainOf 18 = .ok (.iload_n 1, 1) := by decide +kernel
theorem dX10_rainOf_19 : decode cX10_rainOf 19 = .ok (.if_icmp .gt 21, 3) := by decide +kernel
theorem dX10_rainOf_22 : decode cX10_rainOf 22 = .ok (.iload_n 2, 1) := by decide +kernel
theorem dX10_rainOf_23 : decode cX10_rainOf 23 = .ok (.aload_n 0, 1) := by decide +kernel
theorem dX10_rainOf_24 : decode cX10_rainOf 24 = .ok (.getfield 312, 3) := by decide +kernel
theorem dX10_rainOf_27 : decode cX10_rainOf 27 = .ok (.getfield 242, 3) := by decide +kernel
theorem dX10_rainOf_30 : decode cX10_rainOf 30 = .ok (.iload_n 3, 1) := by decide +kernel
theorem dX10_rainOf_31 : decode cX10_rainOf 31 = .ok (.iaload, 1) := by decide +kernel
theorem dX10_rainOf_32 : decode cX10_rainOf 32 = .ok (.iadd, 1) := by decide +kernel
theorem dX10_rainOf_33 : decode cX10_rainOf 33 = .ok (.istore_n 2, 1) := by decide +kernel
theorem dX10_rainOf_34 : decode cX10_rainOf 34 = .ok (.iinc 3 1, 3) := by decide +kernel
theorem dX10_rainOf_37 : decode cX10_rainOf 37 = .ok (.goto (-20), 3) := by decide +kernel
theorem dX10_rainOf_40 : decode cX10_rainOf 40 = .ok (.iload_n 2, 1) := by decide +kernel
theorem dX10_rainOf_41 : decode cX10_rainOf 41 = .ok (.ireturn, 1) := by decide +kernel
theorem dX10_runs_0 : decode cX10_runs 0 = .ok (.aload_n 0, 1) := by decide +kernel
theorem dX10_runs_1 : decode cX10_runs 1 = .ok (.bipush (-2), 2) := by decide +kernel
theorem dX10_runs_3 : decode cX10_runs 3 = .ok (.putfield 338, 3) := by decide +kernel
theorem dX10_runs_6 : decode cX10_runs 6 = .ok (.iconst 0, 1) := by decide +kernel
theorem dX10_runs_7 : decode cX10_runs 7 = .ok (.istore_n 3, 1) := by decide +kernel
theorem dX10_runs_8 : decode cX10_runs 8 = .ok (.iload_n 3, 1) := by decide +kernel
theorem dX10_runs_9 : decode cX10_runs 9 = .ok (.bipush 60, 2) := by decide +kernel
theorem dX10_runs_11 : decode cX10_runs 11 = .ok (.if_icmp .ge 204, 3) := by decide +kernel
theorem dX10_runs_14 : decode cX10_runs 14 = .ok (.iconst 0, 1) := by decide +kernel
theorem dX10_runs_15 : decode cX10_runs 15 = .ok (.istore 4, 2) := by decide +kernel
theorem dX10_runs_17 : decode cX10_runs 17 = .ok (.aload_n 0, 1) := by decide +kernel
theorem dX10_runs_18 : decode cX10_runs 18 = .ok (.iload_n 1, 1) := by decide +kernel
theorem dX10_runs_19 : decode cX10_runs 19 = .ok (.iload_n 3, 1) := by decide +kernel
theorem dX10_runs_20 : decode cX10_runs 20 = .ok (.iload_n 2, 1) := by decide +kernel
theorem dX10_runs_21 : decode cX10_runs 21 = .ok (.invokevirtual 341, 3) := by decide +kernel
theorem dX10_runs_24 : decode cX10_runs 24 = .ok (.istore 5, 2) := by decide +kernel
theorem dX10_runs_26 : decode cX10_runs 26 = .ok (.iconst 0, 1) := by decide +kernel
theorem dX10_runs_27 : decode cX10_runs 27 = .ok (.istore 6, 2) := by decide +kernel
theorem dX10_runs_29 : decode cX10_runs 29 = .ok (.iload 6, 2) := by decide +kernel
theorem dX10_runs_31 : decode cX10_runs 31 = .ok (.aload_n 0, 1) := by decide +kernel
theorem dX10_runs_32 : decode cX10_runs 32 = .ok (.getfield 312, 3) := by decide +kernel
theorem dX10_runs_35 : decode cX10_runs 35 = .ok (.getfield 170, 3) := by decide +kernel
theorem dX10_runs_38 : decode cX10_runs 38 = .ok (.if_icmp .ge 161, 3) := by decide +kernel
theorem dX10_runs_41 : decode cX10_runs 41 = .ok (.bipush 60, 2) := by decide +kernel
theorem dX10_runs_43 : decode cX10_runs 43 = .ok (.iload 6, 2) := by decide +kernel
theorem dX10_runs_45 : decode cX10_runs 45 = .ok (.imul, 1) := by decide +kernel
theorem dX10_runs_46 : decode cX10_runs 46 = .ok (.iload_n 3, 1) := by decide +kernel
theorem dX10_runs_47 : decode cX10_runs 47 = .ok (.iadd, 1) := by decide +kernel
theorem dX10_runs_48 : decode cX10_runs 48 = .ok (.istore 7, 2) := by decide +kernel
theorem dX10_runs_50 : decode cX10_runs 50 = .ok (.aload_n 0, 1) := by decide +kernel
theorem dX10_runs_51 : decode cX10_runs 51 = .ok (.getfield 338, 3) := by decide +kernel
theorem dX10_runs_54 : decode cX10_runs 54 = .ok (.bipush (-2), 2) := by decide +kernel
theorem dX10_runs_56 : decode cX10_runs 56 = .ok (.if_icmp .ne 16, 3) := by decide +kernel
theorem dX10_runs_59 : decode cX10_runs 59 = .ok (.aload_n 0, 1) := by decide +kernel
theorem dX10_runs_60 : decode cX10_runs 60 = .ok (.iload_n 1, 1) := by decide +kernel
theorem dX10_runs_61 : decode cX10_runs 61 = .ok (.iload 6, 2) := by decide +kernel
theorem dX10_runs_63 : decode cX10_runs 63 = .ok (.iload_n 3, 1) := by decide +kernel
theorem dX10_runs_64 : decode cX10_runs 64 = .ok (.iload 5, 2) := by decide +kernel
theorem dX10_runs_66 : decode cX10_runs 66 = .ok (.invokevirtual 345, 3) := by decide +kernel
theorem dX10_runs_69 : decode cX10_runs 69 = .ok (.goto 4, 3) := by decide +kernel
theorem dX10_runs_72 : decode cX10_runs 72 = .ok (.iconst 0, 1) := by decide +kernel
theorem dX10_runs_73 : decode cX10_runs 73 = .ok (.istore 8, 2) := by decide +kernel
theorem dX10_runs_75 : decode cX10_runs 75 = .ok (.aload_n 0, 1) := by decide +kernel
theorem dX10_runs_76 : decode cX10_runs 76 = .ok (.getfield 21, 3) := by decide +kernel
theorem dX10_runs_79 : decode cX10_runs 79 = .ok (.iload 7, 2) := by decide +kernel
theorem dX10_runs_81 : decode cX10_runs 81 = .ok (.iload 8, 2) := by decide +kernel
theorem dX10_runs_83 : decode cX10_runs 83 = .ok (.iastore, 1) := by decide +kernel
theorem dX10_runs_84 : decode cX10_runs 84 = .ok (.aload_n 0, 1) := by decide +kernel
theorem dX10_runs_85 : decode cX10_runs 85 = .ok (.getfield 24, 3) := by decide +kernel
theorem dX10_runs_88 : decode cX10_runs 88 = .ok (.iload 7, 2) := by decide +kernel
theorem dX10_runs_90 : decode cX10_runs 90 = .ok (.iload_n 3, 1) := by decide +kernel
theorem dX10_runs_91 : decode cX10_runs 91 = .ok (.ifCond .ne 7, 3) := by decide +kernel
theorem dX10_runs_94 : decode cX10_runs 94 = .ok (.iconst 0, 1) := by decide +kernel
theorem dX10_runs_95 : decode cX10_runs 95 = .ok (.goto 12, 3) := by decide +kernel
theorem dX10_runs_98 : decode cX10_runs 98 = .ok (.aload_n 0, 1) := by decide +kernel
theorem dX10_runs_99 : decode cX10_runs 99 = .ok (.getfield 24, 3) := by decide +kernel
theorem dX10_runs_102 : decode cX10_runs 102 = .ok (.iload 7, 2) := by decide +kernel
theorem dX10_runs_104 : decode cX10_runs 104 = .ok (.iconst 1, 1) := by decide +kernel
theorem dX10_runs_105 : decode cX10_runs 105 = .ok (.isub, 1) := by decide +kernel
theorem dX10_runs_106 : decode cX10_runs 106 = .ok (.iaload, 1) := by decide +kernel
theorem dX10_runs_107 : decode cX10_runs 107 = .ok (.iload 8, 2) := by decide +kernel
theorem dX10_runs_109 : decode cX10_runs 109 = .ok (.iadd, 1) := by decide +kernel
theorem dX10_runs_110 : decode cX10_runs 110 = .ok (.iastore, 1) := by decide +kernel
theorem dX10_runs_111 : decode cX10_runs 111 = .ok (.aload_n 0, 1) := by decide +kernel
theorem dX10_runs_112 : decode cX10_runs 112 = .ok (.getfield 27, 3) := by decide +kernel
theorem dX10_runs_115 : decode cX10_runs 115 = .ok (.iload 7, 2) := by decide +kernel
theorem dX10_runs_117 : decode cX10_runs 117 = .ok (.iload_n 3, 1) := by decide +kernel
theorem dX10_runs_118 : decode cX10_runs 118 = .ok (.ifCond .ne 7, 3) := by decide +kernel
theorem dX10_runs_121 : decode cX10_runs 121 = .ok (.iconst 0, 1) := by decide +kernel
theorem dX10_runs_122 : decode cX10_runs 122 = .ok (.goto 12, 3) := by decide +kernel
theorem dX10_runs_125 : decode cX10_runs 125 = .ok (.aload_n 0, 1) := by decide +kernel
theorem dX10_runs_126 : decode cX10_runs 126 = .ok (.getfield 27, 3) := by decide +kernel
theorem dX10_runs_129 : decode cX10_runs 129 = .ok (.iload 7, 2) := by decide +kernel
theorem dX10_runs_131 : decode cX10_runs 131 = .ok (.iconst 1, 1) := by decide +kernel
theorem dX10_runs_132 : decode cX10_runs 132 = .ok (.isub, 1) := by decide +kernel
theorem dX10_runs_133 : decode cX10_runs 133 = .ok (.iaload, 1) := by decide +kernel
theorem dX10_runs_134 : decode cX10_runs 134 = .ok (.aload_n 0, 1) := by decide +kernel
theorem dX10_runs_135 : decode cX10_runs 135 = .ok (.getfield 312, 3) := by decide +kernel
theorem dX10_runs_138 : decode cX10_runs 138 = .ok (.getfield 265, 3) := by decide +kernel
theorem dX10_runs_141 : decode cX10_runs 141 = .ok (.iload_n 1, 1) := by decide +kernel
theorem dX10_runs_142 : decode cX10_runs 142 = .ok (.iaload, 1) := by decide +kernel
theorem dX10_runs_143 : decode cX10_runs 143 = .ok (.iconst 3, 1) := by decide +kernel
theorem dX10_runs_144 : decode cX10_runs 144 = .ok (.if_icmp .ne 27, 3) := by decide +kernel
theorem dX10_runs_147 : decode cX10_runs 147 = .ok (.aload_n 0, 1) := by decide +kernel
theorem dX10_runs_148 : decode cX10_runs 148 = .ok (.getfield 24, 3) := by decide +kernel
theorem dX10_runs_151 : decode cX10_runs 151 = .ok (.iload 7, 2) := by decide +kernel
theorem dX10_runs_153 : decode cX10_runs 153 = .ok (.iaload, 1) := by decide +kernel
theorem dX10_runs_154 : decode cX10_runs 154 = .ok (.aload_n 0, 1) := by decide +kernel
theorem dX10_runs_155 : decode cX10_runs 155 = .ok (.getfield 312, 3) := by decide +kernel
theorem dX10_runs_158 : decode cX10_runs 158 = .ok (.getfield 271, 3) := by decide +kernel
theorem dX10_runs_161 : decode cX10_runs 161 = .ok (.iload_n 1, 1) := by decide +kernel
theorem dX10_runs_162 : decode cX10_runs 162 = .ok (.iaload, 1) := by decide +kernel
theorem dX10_runs_163 : decode cX10_runs 163 = .ok (.if_icmp .lt 8, 3) := by decide +kernel
theorem dX10_runs_166 : decode cX10_runs 166 = .ok (.iload 8, 2) := by decide +kernel
theorem dX10_runs_168 : decode cX10_runs 168 = .ok (.goto 4, 3) := by decide +kernel
theorem dX10_runs_171 : decode cX10_runs 171 = .ok (.iconst 0, 1) := by decide +kernel
theorem dX10_runs_172 : decode cX10_runs 172 = .ok (.iadd, 1) := by decide +kernel
theorem dX10_runs_173 : decode cX10_runs 173 = .ok (.iastore, 1) := by decide +kernel
theorem dX10_runs_174 : decode cX10_runs 174 = .ok (.iload 4, 2) := by decide +kernel
theorem dX10_runs_176 : decode cX10_runs 176 = .ok (.ifCond .ne 10, 3) := by decide +kernel
theorem dX10_runs_179 : decode cX10_runs 179 = .ok (.iload 8, 2) := by decide +kernel
theorem dX10_runs_181 : decode cX10_runs 181 = .ok (.bipush 100, 2) := by decide +kernel
theorem dX10_runs_183 : decode cX10_runs 183 = .ok (.if_icmp .lt 7, 3) := by decide +kernel
theorem dX10_runs_186 : decode cX10_runs 186 = .ok (.iconst 1, 1) := by decide +kernel
theorem dX10_runs_187 : decode cX10_runs 187 = .ok (.goto 4, 3) := by decide +kernel
theorem dX10_runs_190 : decode cX10_runs 190 = .ok (.iconst 0, 1) := by decide +kernel
theorem dX10_runs_191 : decode cX10_runs 191 = .ok (.istore 4, 2) := by decide +kernel
theorem dX10_runs_193 : decode cX10_runs 193 = .ok (.iinc 6 1, 3) := by decide +kernel
theorem dX10_runs_196 : decode cX10_runs 196 = .ok (.goto (-167), 3) := by decide +kernel
theorem dX10_runs_199 : decode cX10_runs 199 = .ok (.iload 4, 2) := by decide +kernel
theorem dX10_runs_201 : decode cX10_runs 201 = .ok (.ifCond .eq 8, 3) := by decide +kernel
theorem dX10_runs_204 : decode cX10_runs 204 = .ok (.aload_n 0, 1) := by decide +kernel
theorem dX10_runs_205 : decode cX10_runs 205 = .ok (.iload_n 3, 1) := by decide +kernel
theorem dX10_runs_206 : decode cX10_runs 206 = .ok (.putfield 338, 3) := by decide +kernel
theorem dX10_runs_209 : decode cX10_runs 209 = .ok (.iinc 3 1, 3) := by decide +kernel
theorem dX10_runs_212 : decode cX10_runs 212 = .ok (.goto (-204), 3) := by decide +kernel
theorem dX10_runs_215 : decode cX10_runs 215 = .ok (.return_, 1) := by decide +kernel
theorem dX10_speedOf_0 : decode cX10_speedOf 0 = .ok (.bipush 60, 2) := by decide +kernel
theorem dX10_speedOf_2 : decode cX10_speedOf 2 = .ok (.iload_n 2, 1) := by decide +kernel
theorem dX10_speedOf_3 : decode cX10_speedOf 3 = .ok (.imul, 1) := by decide +kernel
theorem dX10_speedOf_4 : decode cX10_speedOf 4 = .ok (.iload_n 3, 1) := by decide +kernel
theorem dX10_speedOf_5 : decode cX10_speedOf 5 = .ok (.iadd, 1) := by decide +kernel
theorem dX10_speedOf_6 : decode cX10_speedOf 6 = .ok (.iconst 1, 1) := by decide +kernel
theorem dX10_speedOf_7 : decode cX10_speedOf 7 = .ok (.isub, 1) := by decide +kernel
theorem dX10_speedOf_8 : decode cX10_speedOf 8 = .ok (.istore 5, 2) := by decide +kernel
theorem dX10_speedOf_10 : decode cX10_speedOf 10 = .ok (.aload_n 0, 1) := by decide +kernel
theorem dX10_speedOf_11 : decode cX10_speedOf 11 = .ok (.getfield 312, 3) := by decide +kernel
theorem dX10_speedOf_14 : decode cX10_speedOf 14 = .ok (.getfield 222, 3) := by decide +kernel
theorem dX10_speedOf_17 : decode cX10_speedOf 17 = .ok (.iload_n 2, 1) := by decide +kernel
theorem dX10_speedOf_18 : decode cX10_speedOf 18 = .ok (.iaload, 1) := by decide +kernel
theorem dX10_speedOf_19 : decode cX10_speedOf 19 = .ok (.iload_n 3, 1) := by decide +kernel
theorem dX10_speedOf_20 : decode cX10_speedOf 20 = .ok (.ifCond .ne 7, 3) := by decide +kernel
theorem dX10_speedOf_23 : decode cX10_speedOf 23 = .ok (.iconst 0, 1) := by decide +kernel
theorem dX10_speedOf_24 : decode cX10_speedOf 24 = .ok (.goto 10, 3) := by decide +kernel
theorem dX10_speedOf_27 : decode cX10_speedOf 27 = .ok (.aload_n 0, 1) := by decide +kernel
theorem dX10_speedOf_28 : decode cX10_speedOf 28 = .ok (.getfield 27, 3) := by decide +kernel
theorem dX10_speedOf_31 : decode cX10_speedOf 31 = .ok (.iload 5, 2) := by decide +kernel
theorem dX10_speedOf_33 : decode cX10_speedOf 33 = .ok (.iaload, 1) := by decide +kernel
theorem dX10_speedOf_34 : decode cX10_speedOf 34 = .ok (.isub, 1) := by decide +kernel
theorem dX10_speedOf_35 : decode cX10_speedOf 35 = .ok (.istore 6, 2) := by decide +kernel
theorem dX10_speedOf_37 : decode cX10_speedOf 37 = .ok (.iload 6, 2) := by decide +kernel
theorem dX10_speedOf_39 : decode cX10_speedOf 39 = .ok (.ifCond .lt 39, 3) := by decide +kernel
theorem dX10_speedOf_42 : decode cX10_speedOf 42 = .ok (.aload_n 0, 1) := by decide +kernel
theorem dX10_speedOf_43 : decode cX10_speedOf 43 = .ok (.getfield 312, 3) := by decide +kernel
theorem dX10_speedOf_46 : decode cX10_speedOf 46 = .ok (.getfield 265, 3) := by decide +kernel
theorem dX10_speedOf_49 : decode cX10_speedOf 49 = .ok (.iload_n 1, 1) := by decide +kernel
theorem dX10_speedOf_50 : decode cX10_speedOf 50 = .ok (.iaload, 1) := by decide +kernel
theorem dX10_speedOf_51 : decode cX10_speedOf 51 = .ok (.iconst 4, 1) := by decide +kernel
theorem dX10_speedOf_52 : decode cX10_speedOf 52 = .ok (.if_icmp .ne 29, 3) := by decide +kernel
theorem dX10_speedOf_55 : decode cX10_speedOf 55 = .ok (.iload_n 3, 1) := by decide +kernel
theorem dX10_speedOf_56 : decode cX10_speedOf 56 = .ok (.ifCond .le 25, 3) := by decide +kernel
theorem dX10_speedOf_59 : decode cX10_speedOf 59 = .ok (.aload_n 0, 1) := by decide +kernel
theorem dX10_speedOf_60 : decode cX10_speedOf 60 = .ok (.getfield 21, 3) := by decide +kernel
theorem dX10_speedOf_63 : decode cX10_speedOf 63 = .ok (.iload 5, 2) := by decide +kernel
theorem dX10_speedOf_65 : decode cX10_speedOf 65 = .ok (.iaload, 1) := by decide +kernel
theorem dX10_speedOf_66 : decode cX10_speedOf 66 = .ok (.aload_n 0, 1) := by decide +kernel
theorem dX10_speedOf_67 : decode cX10_speedOf 67 = .ok (.getfield 312, 3) := by decide +kernel
theorem dX10_speedOf_70 : decode cX10_speedOf 70 = .ok (.getfield 271, 3) := by decide +kernel
theorem dX10_speedOf_73 : decode cX10_speedOf 73 = .ok (.iload_n 1, 1) := by decide +kernel
theorem dX10_speedOf_74 : decode cX10_speedOf 74 = .ok (.iaload, 1) := by decide +kernel
theorem dX10_speedOf_75 : decode cX10_speedOf 75 = .ok (.if_icmp .lt 6, 3) := by decide +kernel
theorem dX10_speedOf_78 : decode cX10_speedOf 78 = .ok (.iconst 0, 1) := by decide +kernel
theorem dX10_speedOf_79 : decode cX10_speedOf 79 = .ok (.istore 6, 2) := by decide +kernel
theorem dX10_speedOf_81 : decode cX10_speedOf 81 = .ok (.aload_n 0, 1) := by decide +kernel
theorem dX10_speedOf_82 : decode cX10_speedOf 82 = .ok (.getfield 312, 3) := by decide +kernel
theorem dX10_speedOf_85 : decode cX10_speedOf 85 = .ok (.getfield 220, 3) := by decide +kernel
theorem dX10_speedOf_88 : decode cX10_speedOf 88 = .ok (.iload_n 2, 1) := by decide +kernel
theorem dX10_speedOf_89 : decode cX10_speedOf 89 = .ok (.iaload, 1) := by decide +kernel
theorem dX10_speedOf_90 : decode cX10_speedOf 90 = .ok (.iload 4, 2) := by decide +kernel
theorem dX10_speedOf_92 : decode cX10_speedOf 92 = .ok (.iadd, 1) := by decide +kernel
theorem dX10_speedOf_93 : decode cX10_speedOf 93 = .ok (.iload 6, 2) := by decide +kernel
theorem dX10_speedOf_95 : decode cX10_speedOf 95 = .ok (.isub, 1) := by decide +kernel
theorem dX10_speedOf_96 : decode cX10_speedOf 96 = .ok (.istore 7, 2) := by decide +kernel
theorem dX10_speedOf_98 : decode cX10_speedOf 98 = .ok (.iload 7, 2) := by decide +kernel
theorem dX10_speedOf_100 : decode cX10_speedOf 100 = .ok (.ifCond .ge 7, 3) := by decide +kernel
theorem dX10_speedOf_103 : decode cX10_speedOf 103 = .ok (.iconst 0, 1) := by decide +kernel
theorem dX10_speedOf_104 : decode cX10_speedOf 104 = .ok (.goto 8, 3) := by decide +kernel
theorem dX10_speedOf_107 : decode cX10_speedOf 107 = .ok (.iload 7, 2) := by decide +kernel
theorem dX10_speedOf_109 : decode cX10_speedOf 109 = .ok (.bipush 10, 2) := by decide +kernel
theorem dX10_speedOf_111 : decode cX10_speedOf 111 = .ok (.idiv, 1) := by decide +kernel
theorem dX10_speedOf_112 : decode cX10_speedOf 112 = .ok (.ireturn, 1) := by decide +kernel
theorem dX10_runsAsTold_0 : decode cX10_runsAsTold 0 = .ok (.aload_n 0, 1) := by decide +kernel
theorem dX10_runsAsTold_1 : decode cX10_runsAsTold 1 = .ok (.bipush 60, 2) := by decide +kernel
theorem dX10_runsAsTold_3 : decode cX10_runsAsTold 3 = .ok (.iconst (-1), 1) := by decide +kernel
theorem dX10_runsAsTold_4 : decode cX10_runsAsTold 4 = .ok (.invokevirtual 326, 3) := by decide +kernel
theorem dX10_runsAsTold_7 : decode cX10_runsAsTold 7 = .ok (.aload_n 0, 1) := by decide +kernel
theorem dX10_runsAsTold_8 : decode cX10_runsAsTold 8 = .ok (.iload_n 1, 1) := by decide +kernel
theorem dX10_runsAsTold_9 : decode cX10_runsAsTold 9 = .ok (.iconst 1, 1) := by decide +kernel
theorem dX10_runsAsTold_10 : decode cX10_runsAsTold 10 = .ok (.invokevirtual 349, 3) := by decide +kernel
theorem dX10_runsAsTold_13 : decode cX10_runsAsTold 13 = .ok (.return_, 1) := by decide +kernel
theorem dX10_speeds_0 : decode cX10_speeds 0 = .ok (.iconst 0, 1) := by decide +kernel
theorem dX10_speeds_1 : decode cX10_speeds 1 = .ok (.istore_n 2, 1) := by decide +kernel
theorem dX10_speeds_2 : decode cX10_speeds 2 = .ok (.iconst 0, 1) := by decide +kernel
theorem dX10_speeds_3 : decode cX10_speeds 3 = .ok (.istore_n 3, 1) := by decide +kernel
theorem dX10_speeds_4 : decode cX10_speeds 4 = .ok (.iload_n 3, 1) := by decide +kernel
theorem dX10_speeds_5 : decode cX10_speeds 5 = .ok (.aload_n 0, 1) := by decide +kernel
theorem dX10_speeds_6 : decode cX10_speeds 6 = .ok (.getfield 312, 3) := by decide +kernel
theorem dX10_speeds_9 : decode cX10_speeds 9 = .ok (.getfield 170, 3) := by decide +kernel
theorem dX10_speeds_12 : decode cX10_speeds 12 = .ok (.if_icmp .ge 27, 3) := by decide +kernel
theorem dX10_speeds_15 : decode cX10_speeds 15 = .ok (.iload_n 1, 1) := by decide +kernel
theorem dX10_speeds_16 : decode cX10_speeds 16 = .ok (.ifCond .lt 23, 3) := by decide +kernel
theorem dX10_speeds_19 : decode cX10_speeds 19 = .ok (.iload_n 2, 1) := by decide +kernel
theorem dX10_speeds_20 : decode cX10_speeds 20 = .ok (.aload_n 0, 1) := by decide +kernel
theorem dX10_speeds_21 : decode cX10_speeds 21 = .ok (.getfield 21, 3) := by decide +kernel
theorem dX10_speeds_24 : decode cX10_speeds 24 = .ok (.bipush 60, 2) := by decide +kernel
theorem dX10_speeds_26 : decode cX10_speeds 26 = .ok (.iload_n 3, 1) := by decide +kernel
theorem dX10_speeds_27 : decode cX10_speeds 27 = .ok (.imul, 1) := by decide +kernel
theorem dX10_speeds_28 : decode cX10_speeds 28 = .ok (.iload_n 1, 1) := by decide +kernel
theorem dX10_speeds_29 : decode cX10_speeds 29 = .ok (.iadd, 1) := by decide +kernel
theorem dX10_speeds_30 : decode cX10_speeds 30 = .ok (.iaload, 1) := by decide +kernel
theorem dX10_speeds_31 : decode cX10_speeds 31 = .ok (.iadd, 1) := by decide +kernel
theorem dX10_speeds_32 : decode cX10_speeds 32 = .ok (.istore_n 2, 1) := by decide +kernel
theorem dX10_speeds_33 : decode cX10_speeds 33 = .ok (.iinc 3 1, 3) := by decide +kernel
theorem dX10_speeds_36 : decode cX10_speeds 36 = .ok (.goto (-32), 3) := by decide +kernel
theorem dX10_speeds_39 : decode cX10_speeds 39 = .ok (.iload_n 2, 1) := by decide +kernel
theorem dX10_speeds_40 : decode cX10_speeds 40 = .ok (.ireturn, 1) := by decide +kernel
theorem dX10_peg_0 : decode cX10_peg 0 = .ok (.aload_n 0, 1) := by decide +kernel
theorem dX10_peg_1 : decode cX10_peg 1 = .ok (.iconst 0, 1) := by decide +kernel
theorem dX10_peg_2 : decode cX10_peg 2 = .ok (.putfield 46, 3) := by decide +kernel
theorem dX10_peg_5 : decode cX10_peg 5 = .ok (.aload_n 0, 1) := by decide +kernel
theorem dX10_peg_6 : decode cX10_peg 6 = .ok (.iload_n 1, 1) := by decide +kernel
theorem dX10_peg_7 : decode cX10_peg 7 = .ok (.invokevirtual 353, 3) := by decide +kernel
theorem dX10_peg_10 : decode cX10_peg 10 = .ok (.ifCond .eq 29, 3) := by decide +kernel
theorem dX10_peg_13 : decode cX10_peg 13 = .ok (.aload_n 0, 1) := by decide +kernel
theorem dX10_peg_14 : decode cX10_peg 14 = .ok (.iload_n 2, 1) := by decide +kernel
theorem dX10_peg_15 : decode cX10_peg 15 = .ok (.invokevirtual 356, 3) := by decide +kernel
theorem dX10_peg_18 : decode cX10_peg 18 = .ok (.ifCond .eq 21, 3) := by decide +kernel
theorem dX10_peg_21 : decode cX10_peg 21 = .ok (.aload_n 0, 1) := by decide +kernel
theorem dX10_peg_22 : decode cX10_peg 22 = .ok (.iload_n 3, 1) := by decide +kernel
theorem dX10_peg_23 : decode cX10_peg 23 = .ok (.invokevirtual 323, 3) := by decide +kernel
theorem dX10_peg_26 : decode cX10_peg 26 = .ok (.ifCond .eq 13, 3) := by decide +kernel
theorem dX10_peg_29 : decode cX10_peg 29 = .ok (.iload 4, 2) := by decide +kernel
theorem dX10_peg_31 : decode cX10_peg 31 = .ok (.iconst 0, 1) := by decide +kernel
theorem dX10_peg_32 : decode cX10_peg 32 = .ok (.iconst 2, 1) := by decide +kernel
theorem dX10_peg_33 : decode cX10_peg 33 = .ok (.invokestatic 108, 3) := by decide +kernel
theorem dX10_peg_36 : decode cX10_peg 36 = .ok (.ifCond .ne 9, 3) := by decide +kernel
theorem dX10_peg_39 : decode cX10_peg 39 = .ok (.aload_n 0, 1) := by decide +kernel
theorem dX10_peg_40 : decode cX10_peg 40 = .ok (.iconst 1, 1) := by decide +kernel
theorem dX10_peg_41 : decode cX10_peg 41 = .ok (.invokevirtual 305, 3) := by decide +kernel
theorem dX10_peg_44 : decode cX10_peg 44 = .ok (.ireturn, 1) := by decide +kernel
theorem dX10_peg_45 : decode cX10_peg 45 = .ok (.aload_n 0, 1) := by decide +kernel
theorem dX10_peg_46 : decode cX10_peg 46 = .ok (.iload_n 1, 1) := by decide +kernel
theorem dX10_peg_47 : decode cX10_peg 47 = .ok (.invokevirtual 359, 3) := by decide +kernel
theorem dX10_peg_50 : decode cX10_peg 50 = .ok (.bipush 60, 2) := by decide +kernel
theorem dX10_peg_52 : decode cX10_peg 52 = .ok (.iload_n 2, 1) := by decide +kernel
theorem dX10_peg_53 : decode cX10_peg 53 = .ok (.imul, 1) := by decide +kernel
theorem dX10_peg_54 : decode cX10_peg 54 = .ok (.iload_n 3, 1) := by decide +kernel
theorem dX10_peg_55 : decode cX10_peg 55 = .ok (.iadd, 1) := by decide +kernel
theorem dX10_peg_56 : decode cX10_peg 56 = .ok (.istore 5, 2) := by decide +kernel
theorem dX10_peg_58 : decode cX10_peg 58 = .ok (.aload_n 0, 1) := by decide +kernel
theorem dX10_peg_59 : decode cX10_peg 59 = .ok (.iload 4, 2) := by decide +kernel
theorem dX10_peg_61 : decode cX10_peg 61 = .ok (.ifCond .ne 13, 3) := by decide +kernel
theorem dX10_peg_64 : decode cX10_peg 64 = .ok (.aload_n 0, 1) := by decide +kernel
theorem dX10_peg_65 : decode cX10_peg 65 = .ok (.getfield 24, 3) := by decide +kernel
theorem dX10_peg_68 : decode cX10_peg 68 = .ok (.iload 5, 2) := by decide +kernel
theorem dX10_peg_70 : decode cX10_peg 70 = .ok (.iaload, 1) := by decide +kernel
theorem dX10_peg_71 : decode cX10_peg 71 = .ok (.goto 26, 3) := by decide +kernel
theorem dX10_peg_74 : decode cX10_peg 74 = .ok (.iload 4, 2) := by decide +kernel
theorem dX10_peg_76 : decode cX10_peg 76 = .ok (.iconst 1, 1) := by decide +kernel
theorem dX10_peg_77 : decode cX10_peg 77 = .ok (.if_icmp .ne 13, 3) := by decide +kernel
theorem dX10_peg_80 : decode cX10_peg 80 = .ok (.aload_n 0, 1) := by decide +kernel
theorem dX10_peg_81 : decode cX10_peg 81 = .ok (.getfield 21, 3) := by decide +kernel
theorem dX10_peg_84 : decode cX10_peg 84 = .ok (.iload 5, 2) := by decide +kernel
theorem dX10_peg_86 : decode cX10_peg 86 = .ok (.iaload, 1) := by decide +kernel
theorem dX10_peg_87 : decode cX10_peg 87 = .ok (.goto 10, 3) := by decide +kernel
theorem dX10_peg_90 : decode cX10_peg 90 = .ok (.aload_n 0, 1) := by decide +kernel
theorem dX10_peg_91 : decode cX10_peg 91 = .ok (.getfield 27, 3) := by decide +kernel
theorem dX10_peg_94 : decode cX10_peg 94 = .ok (.iload 5, 2) := by decide +kernel
theorem dX10_peg_96 : decode cX10_peg 96 = .ok (.iaload, 1) := by decide +kernel
theorem dX10_peg_97 : decode cX10_peg 97 = .ok (.invokevirtual 317, 3) := by decide +kernel
theorem dX10_peg_100 : decode cX10_peg 100 = .ok (.ireturn, 1) := by decide +kernel
theorem dX10_gone_0 : decode cX10_gone 0 = .ok (.aload_n 0, 1) := by decide +kernel
theorem dX10_gone_1 : decode cX10_gone 1 = .ok (.iconst 0, 1) := by decide +kernel
theorem dX10_gone_2 : decode cX10_gone 2 = .ok (.putfield 46, 3) := by decide +kernel
theorem dX10_gone_5 : decode cX10_gone 5 = .ok (.aload_n 0, 1) := by decide +kernel
theorem dX10_gone_6 : decode cX10_gone 6 = .ok (.iload_n 1, 1) := by decide +kernel
theorem dX10_gone_7 : decode cX10_gone 7 = .ok (.invokevirtual 353, 3) := by decide +kernel
theorem dX10_gone_10 : decode cX10_gone 10 = .ok (.ifCond .ne 9, 3) := by decide +kernel
theorem dX10_gone_13 : decode cX10_gone 13 = .ok (.aload_n 0, 1) := by decide +kernel
theorem dX10_gone_14 : decode cX10_gone 14 = .ok (.iconst 1, 1) := by decide +kernel
theorem dX10_gone_15 : decode cX10_gone 15 = .ok (.invokevirtual 305, 3) := by decide +kernel
theorem dX10_gone_18 : decode cX10_gone 18 = .ok (.ireturn, 1) := by decide +kernel
theorem dX10_gone_19 : decode cX10_gone 19 = .ok (.aload_n 0, 1) := by decide +kernel
theorem dX10_gone_20 : decode cX10_gone 20 = .ok (.iload_n 1, 1) := by decide +kernel
theorem dX10_gone_21 : decode cX10_gone 21 = .ok (.invokevirtual 359, 3) := by decide +kernel
theorem dX10_gone_24 : decode cX10_gone 24 = .ok (.aload_n 0, 1) := by decide +kernel
theorem dX10_gone_25 : decode cX10_gone 25 = .ok (.aload_n 0, 1) := by decide +kernel
theorem dX10_gone_26 : decode cX10_gone 26 = .ok (.getfield 338, 3) := by decide +kernel
theorem dX10_gone_29 : decode cX10_gone 29 = .ok (.invokevirtual 317, 3) := by decide +kernel
theorem dX10_gone_32 : decode cX10_gone 32 = .ok (.ireturn, 1) := by decide +kernel
theorem dX10_waveOf_0 : decode cX10_waveOf 0 = .ok (.aload_n 0, 1) := by decide +kernel
theorem dX10_waveOf_1 : decode cX10_waveOf 1 = .ok (.getfield 338, 3) := by decide +kernel
theorem dX10_waveOf_4 : decode cX10_waveOf 4 = .ok (.bipush (-2), 2) := by decide +kernel
theorem dX10_waveOf_6 : decode cX10_waveOf 6 = .ok (.if_icmp .ne 7, 3) := by decide +kernel
theorem dX10_waveOf_9 : decode cX10_waveOf 9 = .ok (.iconst 0, 1) := by decide +kernel
theorem dX10_waveOf_10 : decode cX10_waveOf 10 = .ok (.goto 24, 3) := by decide +kernel
theorem dX10_waveOf_13 : decode cX10_waveOf 13 = .ok (.aload_n 0, 1) := by decide +kernel
theorem dX10_waveOf_14 : decode cX10_waveOf 14 = .ok (.aload_n 0, 1) := by decide +kernel
theorem dX10_waveOf_15 : decode cX10_waveOf 15 = .ok (.getfield 338, 3) := by decide +kernel
theorem dX10_waveOf_18 : decode cX10_waveOf 18 = .ok (.invokevirtual 362, 3) := by decide +kernel
theorem dX10_waveOf_21 : decode cX10_waveOf 21 = .ok (.aload_n 0, 1) := by decide +kernel
theorem dX10_waveOf_22 : decode cX10_waveOf 22 = .ok (.getfield 17, 3) := by decide +kernel
theorem dX10_waveOf_25 : decode cX10_waveOf 25 = .ok (.aload_n 0, 1) := by decide +kernel
theorem dX10_waveOf_26 : decode cX10_waveOf 26 = .ok (.getfield 338, 3) := by decide +kernel
theorem dX10_waveOf_29 : decode cX10_waveOf 29 = .ok (.iaload, 1) := by decide +kernel
theorem dX10_waveOf_30 : decode cX10_waveOf 30 = .ok (.imul, 1) := by decide +kernel
theorem dX10_waveOf_31 : decode cX10_waveOf 31 = .ok (.bipush 100, 2) := by decide +kernel
theorem dX10_waveOf_33 : decode cX10_waveOf 33 = .ok (.idiv, 1) := by decide +kernel
theorem dX10_waveOf_34 : decode cX10_waveOf 34 = .ok (.ireturn, 1) := by decide +kernel
theorem dX10_wave_0 : decode cX10_wave 0 = .ok (.aload_n 0, 1) := by decide +kernel
theorem dX10_wave_1 : decode cX10_wave 1 = .ok (.iconst 0, 1) := by decide +kernel
theorem dX10_wave_2 : decode cX10_wave 2 = .ok (.putfield 46, 3) := by decide +kernel
theorem dX10_wave_5 : decode cX10_wave 5 = .ok (.aload_n 0, 1) := by decide +kernel
theorem dX10_wave_6 : decode cX10_wave 6 = .ok (.iload_n 1, 1) := by decide +kernel
theorem dX10_wave_7 : decode cX10_wave 7 = .ok (.invokevirtual 353, 3) := by decide +kernel
theorem dX10_wave_10 : decode cX10_wave 10 = .ok (.ifCond .ne 9, 3) := by decide +kernel
theorem dX10_wave_13 : decode cX10_wave 13 = .ok (.aload_n 0, 1) := by decide +kernel
theorem dX10_wave_14 : decode cX10_wave 14 = .ok (.iconst 1, 1) := by decide +kernel
theorem dX10_wave_15 : decode cX10_wave 15 = .ok (.invokevirtual 305, 3) := by decide +kernel
theorem dX10_wave_18 : decode cX10_wave 18 = .ok (.ireturn, 1) := by decide +kernel
theorem dX10_wave_19 : decode cX10_wave 19 = .ok (.aload_n 0, 1) := by decide +kernel
theorem dX10_wave_20 : decode cX10_wave 20 = .ok (.iload_n 1, 1) := by decide +kernel
theorem dX10_wave_21 : decode cX10_wave 21 = .ok (.invokevirtual 359, 3) := by decide +kernel
theorem dX10_wave_24 : decode cX10_wave 24 = .ok (.aload_n 0, 1) := by decide +kernel
theorem dX10_wave_25 : decode cX10_wave 25 = .ok (.aload_n 0, 1) := by decide +kernel
theorem dX10_wave_26 : decode cX10_wave 26 = .ok (.invokevirtual 365, 3) := by decide +kernel
theorem dX10_wave_29 : decode cX10_wave 29 = .ok (.invokevirtual 317, 3) := by decide +kernel
theorem dX10_wave_32 : decode cX10_wave 32 = .ok (.ireturn, 1) := by decide +kernel
theorem dX10_read_0 : decode cX10_read 0 = .ok (.aload_n 0, 1) := by decide +kernel
theorem dX10_read_1 : decode cX10_read 1 = .ok (.iconst 0, 1) := by decide +kernel
theorem dX10_read_2 : decode cX10_read 2 = .ok (.putfield 46, 3) := by decide +kernel
theorem dX10_read_5 : decode cX10_read 5 = .ok (.aload_n 0, 1) := by decide +kernel
theorem dX10_read_6 : decode cX10_read 6 = .ok (.iload_n 1, 1) := by decide +kernel
theorem dX10_read_7 : decode cX10_read 7 = .ok (.invokevirtual 356, 3) := by decide +kernel
theorem dX10_read_10 : decode cX10_read 10 = .ok (.ifCond .eq 11, 3) := by decide +kernel
theorem dX10_read_13 : decode cX10_read 13 = .ok (.aload_n 0, 1) := by decide +kernel
theorem dX10_read_14 : decode cX10_read 14 = .ok (.iload_n 2, 1) := by decide +kernel
theorem dX10_read_15 : decode cX10_read 15 = .ok (.invokevirtual 323, 3) := by decide +kernel
theorem dX10_read_18 : decode cX10_read 18 = .ok (.ifCond .ne 9, 3) := by decide +kernel
theorem dX10_read_21 : decode cX10_read 21 = .ok (.aload_n 0, 1) := by decide +kernel
theorem dX10_read_22 : decode cX10_read 22 = .ok (.iconst 1, 1) := by decide +kernel
theorem dX10_read_23 : decode cX10_read 23 = .ok (.invokevirtual 305, 3) := by decide +kernel
theorem dX10_read_26 : decode cX10_read 26 = .ok (.ireturn, 1) := by decide +kernel
theorem dX10_read_27 : decode cX10_read 27 = .ok (.iload_n 3, 1) := by decide +kernel
theorem dX10_read_28 : decode cX10_read 28 = .ok (.iconst 0, 1) := by decide +kernel
theorem dX10_read_29 : decode cX10_read 29 = .ok (.ldc_w 368, 3) := by decide +kernel
theorem dX10_read_32 : decode cX10_read 32 = .ok (.invokestatic 108, 3) := by decide +kernel
theorem dX10_read_35 : decode cX10_read 35 = .ok (.ifCond .eq 15, 3) := by decide +kernel
theorem dX10_read_38 : decode cX10_read 38 = .ok (.iload 4, 2) := by decide +kernel
theorem dX10_read_40 : decode cX10_read 40 = .ok (.iconst 0, 1) := by decide +kernel
theorem dX10_read_41 : decode cX10_read 41 = .ok (.sipush 999, 3) := by decide +kernel
theorem dX10_read_44 : decode cX10_read 44 = .ok (.invokestatic 108, 3) := by decide +kernel
theorem dX10_read_47 : decode cX10_read 47 = .ok (.ifCond .ne 9, 3) := by decide +kernel
theorem dX10_read_50 : decode cX10_read 50 = .ok (.aload_n 0, 1) := by decide +kernel
theorem dX10_read_51 : decode cX10_read 51 = .ok (.iconst 2, 1) := by decide +kernel
theorem dX10_read_52 : decode cX10_read 52 = .ok (.invokevirtual 305, 3) := by decide +kernel
theorem dX10_read_55 : decode cX10_read 55 = .ok (.ireturn, 1) := by decide +kernel
theorem dX10_read_56 : decode cX10_read 56 = .ok (.aload_n 0, 1) := by decide +kernel
theorem dX10_read_57 : decode cX10_read 57 = .ok (.getfield 315, 3) := by decide +kernel
theorem dX10_read_60 : decode cX10_read 60 = .ok (.bipush 24, 2) := by decide +kernel
theorem dX10_read_62 : decode cX10_read 62 = .ok (.if_icmp .ne 9, 3) := by decide +kernel
theorem dX10_read_65 : decode cX10_read 65 = .ok (.aload_n 0, 1) := by decide +kernel
theorem dX10_read_66 : decode cX10_read 66 = .ok (.iconst 3, 1) := by decide +kernel
theorem dX10_read_67 : decode cX10_read 67 = .ok (.invokevirtual 305, 3) := by decide +kernel
theorem dX10_read_70 : decode cX10_read 70 = .ok (.ireturn, 1) := by decide +kernel
theorem dX10_read_71 : decode cX10_read 71 = .ok (.aload_n 0, 1) := by decide +kernel
theorem dX10_read_72 : decode cX10_read 72 = .ok (.getfield 30, 3) := by decide +kernel
theorem dX10_read_75 : decode cX10_read 75 = .ok (.aload_n 0, 1) := by decide +kernel
theorem dX10_read_76 : decode cX10_read 76 = .ok (.getfield 315, 3) := by decide +kernel
theorem dX10_read_79 : decode cX10_read 79 = .ok (.iload_n 1, 1) := by decide +kernel
theorem dX10_read_80 : decode cX10_read 80 = .ok (.iastore, 1) := by decide +kernel
theorem dX10_read_81 : decode cX10_read 81 = .ok (.aload_n 0, 1) := by decide +kernel
theorem dX10_read_82 : decode cX10_read 82 = .ok (.getfield 33, 3) := by decide +kernel
theorem dX10_read_85 : decode cX10_read 85 = .ok (.aload_n 0, 1) := by decide +kernel
theorem dX10_read_86 : decode cX10_read 86 = .ok (.getfield 315, 3) := by decide +kernel
theorem dX10_read_89 : decode cX10_read 89 = .ok (.iload_n 2, 1) := by decide +kernel
theorem dX10_read_90 : decode cX10_read 90 = .ok (.iastore, 1) := by decide +kernel
theorem dX10_read_91 : decode cX10_read 91 = .ok (.aload_n 0, 1) := by decide +kernel
theorem dX10_read_92 : decode cX10_read 92 = .ok (.getfield 36, 3) := by decide +kernel
theorem dX10_read_95 : decode cX10_read 95 = .ok (.aload_n 0, 1) := by decide +kernel
theorem dX10_read_96 : decode cX10_read 96 = .ok (.getfield 315, 3) := by decide +kernel
theorem dX10_read_99 : decode cX10_read 99 = .ok (.iload_n 3, 1) := by decide +kernel
theorem dX10_read_100 : decode cX10_read 100 = .ok (.iastore, 1) := by decide +kernel
theorem dX10_read_101 : decode cX10_read 101 = .ok (.aload_n 0, 1) := by decide +kernel
theorem dX10_read_102 : decode cX10_read 102 = .ok (.getfield 39, 3) := by decide +kernel
theorem dX10_read_105 : decode cX10_read 105 = .ok (.aload_n 0, 1) := by decide +kernel
theorem dX10_read_106 : decode cX10_read 106 = .ok (.getfield 315, 3) := by decide +kernel
theorem dX10_read_109 : decode cX10_read 109 = .ok (.iload 4, 2) := by decide +kernel
theorem dX10_read_111 : decode cX10_read 111 = .ok (.iastore, 1) := by decide +kernel
theorem dX10_read_112 : decode cX10_read 112 = .ok (.aload_n 0, 1) := by decide +kernel
theorem dX10_read_113 : decode cX10_read 113 = .ok (.dup, 1) := by decide +kernel
theorem dX10_read_114 : decode cX10_read 114 = .ok (.getfield 315, 3) := by decide +kernel
theorem dX10_read_117 : decode cX10_read 117 = .ok (.iconst 1, 1) := by decide +kernel
theorem dX10_read_118 : decode cX10_read 118 = .ok (.iadd, 1) := by decide +kernel
theorem dX10_read_119 : decode cX10_read 119 = .ok (.putfield 315, 3) := by decide +kernel
theorem dX10_read_122 : decode cX10_read 122 = .ok (.aload_n 0, 1) := by decide +kernel
theorem dX10_read_123 : decode cX10_read 123 = .ok (.aload_n 0, 1) := by decide +kernel
theorem dX10_read_124 : decode cX10_read 124 = .ok (.getfield 315, 3) := by decide +kernel
theorem dX10_read_127 : decode cX10_read 127 = .ok (.invokevirtual 317, 3) := by decide +kernel
theorem dX10_read_130 : decode cX10_read 130 = .ok (.ireturn, 1) := by decide +kernel
theorem dX10_forget_0 : decode cX10_forget 0 = .ok (.aload_n 0, 1) := by decide +kernel
theorem dX10_forget_1 : decode cX10_forget 1 = .ok (.iconst 0, 1) := by decide +kernel
theorem dX10_forget_2 : decode cX10_forget 2 = .ok (.putfield 46, 3) := by decide +kernel
theorem dX10_forget_5 : decode cX10_forget 5 = .ok (.aload_n 0, 1) := by decide +kernel
theorem dX10_forget_6 : decode cX10_forget 6 = .ok (.getfield 315, 3) := by decide +kernel
theorem dX10_forget_9 : decode cX10_forget 9 = .ok (.istore_n 1, 1) := by decide +kernel
theorem dX10_forget_10 : decode cX10_forget 10 = .ok (.aload_n 0, 1) := by decide +kernel
theorem dX10_forget_11 : decode cX10_forget 11 = .ok (.iconst 0, 1) := by decide +kernel
theorem dX10_forget_12 : decode cX10_forget 12 = .ok (.putfield 315, 3) := by decide +kernel
theorem dX10_forget_15 : decode cX10_forget 15 = .ok (.iload_n 1, 1) := by decide +kernel
theorem dX10_forget_16 : decode cX10_forget 16 = .ok (.ireturn, 1) := by decide +kernel
theorem dX10_agrees_0 : decode cX10_agrees 0 = .ok (.aload_n 0, 1) := by decide +kernel
theorem dX10_agrees_1 : decode cX10_agrees 1 = .ok (.iload_n 1, 1) := by decide +kernel
theorem dX10_agrees_2 : decode cX10_agrees 2 = .ok (.invokevirtual 359, 3) := by decide +kernel
theorem dX10_agrees_5 : decode cX10_agrees 5 = .ok (.iconst 0, 1) := by decide +kernel
theorem dX10_agrees_6 : decode cX10_agrees 6 = .ok (.istore_n 3, 1) := by decide +kernel
theorem dX10_agrees_7 : decode cX10_agrees 7 = .ok (.iload_n 3, 1) := by decide +kernel
theorem dX10_agrees_8 : decode cX10_agrees 8 = .ok (.aload_n 0, 1) := by decide +kernel
theorem dX10_agrees_9 : decode cX10_agrees 9 = .ok (.getfield 315, 3) := by decide +kernel
theorem dX10_agrees_12 : decode cX10_agrees 12 = .ok (.if_icmp .ge 77, 3) := by decide +kernel
theorem dX10_agrees_15 : decode cX10_agrees 15 = .ok (.aload_n 0, 1) := by decide +kernel
theorem dX10_agrees_16 : decode cX10_agrees 16 = .ok (.getfield 33, 3) := by decide +kernel
theorem dX10_agrees_19 : decode cX10_agrees 19 = .ok (.iload_n 3, 1) := by decide +kernel
theorem dX10_agrees_20 : decode cX10_agrees 20 = .ok (.iaload, 1) := by decide +kernel
theorem dX10_agrees_21 : decode cX10_agrees 21 = .ok (.iload_n 2, 1) := by decide +kernel
theorem dX10_agrees_22 : decode cX10_agrees 22 = .ok (.if_icmp .le 6, 3) := by decide +kernel
theorem dX10_agrees_25 : decode cX10_agrees 25 = .ok (.goto 58, 3) := by decide +kernel
theorem dX10_agrees_28 : decode cX10_agrees 28 = .ok (.aload_n 0, 1) := by decide +kernel
theorem dX10_agrees_29 : decode cX10_agrees 29 = .ok (.getfield 24, 3) := by decide +kernel
theorem dX10_agrees_32 : decode cX10_agrees 32 = .ok (.bipush 60, 2) := by decide +kernel
theorem dX10_agrees_34 : decode cX10_agrees 34 = .ok (.aload_n 0, 1) := by decide +kernel
theorem dX10_agrees_35 : decode cX10_agrees 35 = .ok (.getfield 30, 3) := by decide +kernel
theorem dX10_agrees_38 : decode cX10_agrees 38 = .ok (.iload_n 3, 1) := by decide +kernel
theorem dX10_agrees_39 : decode cX10_agrees 39 = .ok (.iaload, 1) := by decide +kernel
theorem dX10_agrees_40 : decode cX10_agrees 40 = .ok (.imul, 1) := by decide +kernel
theorem dX10_agrees_41 : decode cX10_agrees 41 = .ok (.aload_n 0, 1) := by decide +kernel
theorem dX10_agrees_42 : decode cX10_agrees 42 = .ok (.getfield 33, 3) := by decide +kernel
theorem dX10_agrees_45 : decode cX10_agrees 45 = .ok (.iload_n 3, 1) := by decide +kernel
theorem dX10_agrees_46 : decode cX10_agrees 46 = .ok (.iaload, 1) := by decide +kernel
theorem dX10_agrees_47 : decode cX10_agrees 47 = .ok (.iadd, 1) := by decide +kernel
theorem dX10_agrees_48 : decode cX10_agrees 48 = .ok (.iaload, 1) := by decide +kernel
theorem dX10_agrees_49 : decode cX10_agrees 49 = .ok (.aload_n 0, 1) := by decide +kernel
theorem dX10_agrees_50 : decode cX10_agrees 50 = .ok (.getfield 36, 3) := by decide +kernel
theorem dX10_agrees_53 : decode cX10_agrees 53 = .ok (.iload_n 3, 1) := by decide +kernel
theorem dX10_agrees_54 : decode cX10_agrees 54 = .ok (.iaload, 1) := by decide +kernel
theorem dX10_agrees_55 : decode cX10_agrees 55 = .ok (.isub, 1) := by decide +kernel
theorem dX10_agrees_56 : decode cX10_agrees 56 = .ok (.istore 4, 2) := by decide +kernel
theorem dX10_agrees_58 : decode cX10_agrees 58 = .ok (.iload 4, 2) := by decide +kernel
theorem dX10_agrees_60 : decode cX10_agrees 60 = .ok (.aload_n 0, 1) := by decide +kernel
theorem dX10_agrees_61 : decode cX10_agrees 61 = .ok (.getfield 39, 3) := by decide +kernel
theorem dX10_agrees_64 : decode cX10_agrees 64 = .ok (.iload_n 3, 1) := by decide +kernel
theorem dX10_agrees_65 : decode cX10_agrees 65 = .ok (.iaload, 1) := by decide +kernel
theorem dX10_agrees_66 : decode cX10_agrees 66 = .ok (.if_icmp .gt 15, 3) := by decide +kernel
theorem dX10_agrees_69 : decode cX10_agrees 69 = .ok (.iload 4, 2) := by decide +kernel
theorem dX10_agrees_71 : decode cX10_agrees 71 = .ok (.ineg, 1) := by decide +kernel
theorem dX10_agrees_72 : decode cX10_agrees 72 = .ok (.aload_n 0, 1) := by decide +kernel
theorem dX10_agrees_73 : decode cX10_agrees 73 = .ok (.getfield 39, 3) := by decide +kernel
theorem dX10_agrees_76 : decode cX10_agrees 76 = .ok (.iload_n 3, 1) := by decide +kernel
theorem dX10_agrees_77 : decode cX10_agrees 77 = .ok (.iaload, 1) := by decide +kernel
theorem dX10_agrees_78 : decode cX10_agrees 78 = .ok (.if_icmp .le 5, 3) := by decide +kernel
theorem dX10_agrees_81 : decode cX10_agrees 81 = .ok (.iconst 0, 1) := by decide +kernel
theorem dX10_agrees_82 : decode cX10_agrees 82 = .ok (.ireturn, 1) := by decide +kernel
theorem dX10_agrees_83 : decode cX10_agrees 83 = .ok (.iinc 3 1, 3) := by decide +kernel
theorem dX10_agrees_86 : decode cX10_agrees 86 = .ok (.goto (-79), 3) := by decide +kernel
theorem dX10_agrees_89 : decode cX10_agrees 89 = .ok (.iconst 1, 1) := by decide +kernel
theorem dX10_agrees_90 : decode cX10_agrees 90 = .ok (.ireturn, 1) := by decide +kernel
theorem dX10_weighs_0 : decode cX10_weighs 0 = .ok (.iconst 0, 1) := by decide +kernel
theorem dX10_weighs_1 : decode cX10_weighs 1 = .ok (.istore_n 1, 1) := by decide +kernel
theorem dX10_weighs_2 : decode cX10_weighs 2 = .ok (.iconst 0, 1) := by decide +kernel
theorem dX10_weighs_3 : decode cX10_weighs 3 = .ok (.istore_n 2, 1) := by decide +kernel
theorem dX10_weighs_4 : decode cX10_weighs 4 = .ok (.iload_n 2, 1) := by decide +kernel
theorem dX10_weighs_5 : decode cX10_weighs 5 = .ok (.aload_n 0, 1) := by decide +kernel
theorem dX10_weighs_6 : decode cX10_weighs 6 = .ok (.getfield 312, 3) := by decide +kernel
theorem dX10_weighs_9 : decode cX10_weighs 9 = .ok (.getfield 173, 3) := by decide +kernel
theorem dX10_weighs_12 : decode cX10_weighs 12 = .ok (.if_icmp .ge 47, 3) := by decide +kernel
theorem dX10_weighs_15 : decode cX10_weighs 15 = .ok (.aload_n 0, 1) := by decide +kernel
theorem dX10_weighs_16 : decode cX10_weighs 16 = .ok (.getfield 42, 3) := by decide +kernel
theorem dX10_weighs_19 : decode cX10_weighs 19 = .ok (.iload_n 2, 1) := by decide +kernel
theorem dX10_weighs_20 : decode cX10_weighs 20 = .ok (.aload_n 0, 1) := by decide +kernel
theorem dX10_weighs_21 : decode cX10_weighs 21 = .ok (.iload_n 2, 1) := by decide +kernel
theorem dX10_weighs_22 : decode cX10_weighs 22 = .ok (.bipush 59, 2) := by decide +kernel
theorem dX10_weighs_24 : decode cX10_weighs 24 = .ok (.invokevirtual 369, 3) := by decide +kernel
theorem dX10_weighs_27 : decode cX10_weighs 27 = .ok (.bastore, 1) := by decide +kernel
theorem dX10_weighs_28 : decode cX10_weighs 28 = .ok (.iload_n 1, 1) := by decide +kernel
theorem dX10_weighs_29 : decode cX10_weighs 29 = .ok (.aload_n 0, 1) := by decide +kernel
theorem dX10_weighs_30 : decode cX10_weighs 30 = .ok (.getfield 42, 3) := by decide +kernel
theorem dX10_weighs_33 : decode cX10_weighs 33 = .ok (.iload_n 2, 1) := by decide +kernel
theorem dX10_weighs_34 : decode cX10_weighs 34 = .ok (.baload, 1) := by decide +kernel
theorem dX10_weighs_35 : decode cX10_weighs 35 = .ok (.ifCond .eq 15, 3) := by decide +kernel
theorem dX10_weighs_38 : decode cX10_weighs 38 = .ok (.aload_n 0, 1) := by decide +kernel
theorem dX10_weighs_39 : decode cX10_weighs 39 = .ok (.getfield 312, 3) := by decide +kernel
theorem dX10_weighs_42 : decode cX10_weighs 42 = .ok (.getfield 263, 3) := by decide +kernel
theorem dX10_weighs_45 : decode cX10_weighs 45 = .ok (.iload_n 2, 1) := by decide +kernel
theorem dX10_weighs_46 : decode cX10_weighs 46 = .ok (.iaload, 1) := by decide +kernel
theorem dX10_weighs_47 : decode cX10_weighs 47 = .ok (.goto 4, 3) := by decide +kernel
theorem dX10_weighs_50 : decode cX10_weighs 50 = .ok (.iconst 0, 1) := by decide +kernel
theorem dX10_weighs_51 : decode cX10_weighs 51 = .ok (.iadd, 1) := by decide +kernel
theorem dX10_weighs_52 : decode cX10_weighs 52 = .ok (.istore_n 1, 1) := by decide +kernel
theorem dX10_weighs_53 : decode cX10_weighs 53 = .ok (.iinc 2 1, 3) := by decide +kernel
theorem dX10_weighs_56 : decode cX10_weighs 56 = .ok (.goto (-52), 3) := by decide +kernel
theorem dX10_weighs_59 : decode cX10_weighs 59 = .ok (.iload_n 1, 1) := by decide +kernel
theorem dX10_weighs_60 : decode cX10_weighs 60 = .ok (.ireturn, 1) := by decide +kernel
theorem dX10_fitsUpTo_0 : decode cX10_fitsUpTo 0 = .ok (.iconst 0, 1) := by decide +kernel
theorem dX10_fitsUpTo_1 : decode cX10_fitsUpTo 1 = .ok (.istore_n 2, 1) := by decide +kernel
theorem dX10_fitsUpTo_2 : decode cX10_fitsUpTo 2 = .ok (.iconst 0, 1) := by decide +kernel
theorem dX10_fitsUpTo_3 : decode cX10_fitsUpTo 3 = .ok (.istore_n 3, 1) := by decide +kernel
theorem dX10_fitsUpTo_4 : decode cX10_fitsUpTo 4 = .ok (.iload_n 3, 1) := by decide +kernel
theorem dX10_fitsUpTo_5 : decode cX10_fitsUpTo 5 = .ok (.aload_n 0, 1) := by decide +kernel
theorem dX10_fitsUpTo_6 : decode cX10_fitsUpTo 6 = .ok (.getfield 312, 3) := by decide +kernel
theorem dX10_fitsUpTo_9 : decode cX10_fitsUpTo 9 = .ok (.getfield 173, 3) := by decide +kernel
theorem dX10_fitsUpTo_12 : decode cX10_fitsUpTo 12 = .ok (.if_icmp .ge 26, 3) := by decide +kernel
theorem dX10_fitsUpTo_15 : decode cX10_fitsUpTo 15 = .ok (.iload_n 2, 1) := by decide +kernel
theorem dX10_fitsUpTo_16 : decode cX10_fitsUpTo 16 = .ok (.aload_n 0, 1) := by decide +kernel
theorem dX10_fitsUpTo_17 : decode cX10_fitsUpTo 17 = .ok (.iload_n 3, 1) := by decide +kernel
theorem dX10_fitsUpTo_18 : decode cX10_fitsUpTo 18 = .ok (.iload_n 1, 1) := by decide +kernel
theorem dX10_fitsUpTo_19 : decode cX10_fitsUpTo 19 = .ok (.invokevirtual 369, 3) := by decide +kernel
theorem dX10_fitsUpTo_22 : decode cX10_fitsUpTo 22 = .ok (.ifCond .eq 7, 3) := by decide +kernel
theorem dX10_fitsUpTo_25 : decode cX10_fitsUpTo 25 = .ok (.iconst 1, 1) := by decide +kernel
theorem dX10_fitsUpTo_26 : decode cX10_fitsUpTo 26 = .ok (.goto 4, 3) := by decide +kernel
theorem dX10_fitsUpTo_29 : decode cX10_fitsUpTo 29 = .ok (.iconst 0, 1) := by decide +kernel
theorem dX10_fitsUpTo_30 : decode cX10_fitsUpTo 30 = .ok (.iadd, 1) := by decide +kernel
theorem dX10_fitsUpTo_31 : decode cX10_fitsUpTo 31 = .ok (.istore_n 2, 1) := by decide +kernel
theorem dX10_fitsUpTo_32 : decode cX10_fitsUpTo 32 = .ok (.iinc 3 1, 3) := by decide +kernel
theorem dX10_fitsUpTo_35 : decode cX10_fitsUpTo 35 = .ok (.goto (-31), 3) := by decide +kernel
theorem dX10_fitsUpTo_38 : decode cX10_fitsUpTo 38 = .ok (.iload_n 2, 1) := by decide +kernel
theorem dX10_fitsUpTo_39 : decode cX10_fitsUpTo 39 = .ok (.ireturn, 1) := by decide +kernel
theorem dX10_fits_0 : decode cX10_fits 0 = .ok (.aload_n 0, 1) := by decide +kernel
theorem dX10_fits_1 : decode cX10_fits 1 = .ok (.iconst 0, 1) := by decide +kernel
theorem dX10_fits_2 : decode cX10_fits 2 = .ok (.putfield 46, 3) := by decide +kernel
theorem dX10_fits_5 : decode cX10_fits 5 = .ok (.aload_n 0, 1) := by decide +kernel
theorem dX10_fits_6 : decode cX10_fits 6 = .ok (.getfield 312, 3) := by decide +kernel
theorem dX10_fits_9 : decode cX10_fits 9 = .ok (.ifnonnull 11, 3) := by decide +kernel
theorem dX10_fits_12 : decode cX10_fits 12 = .ok (.aload_n 0, 1) := by decide +kernel
theorem dX10_fits_13 : decode cX10_fits 13 = .ok (.iconst 1, 1) := by decide +kernel
theorem dX10_fits_14 : decode cX10_fits 14 = .ok (.invokevirtual 305, 3) := by decide +kernel
theorem dX10_fits_17 : decode cX10_fits 17 = .ok (.goto 13, 3) := by decide +kernel
theorem dX10_fits_20 : decode cX10_fits 20 = .ok (.aload_n 0, 1) := by decide +kernel
theorem dX10_fits_21 : decode cX10_fits 21 = .ok (.aload_n 0, 1) := by decide +kernel
theorem dX10_fits_22 : decode cX10_fits 22 = .ok (.bipush 59, 2) := by decide +kernel
theorem dX10_fits_24 : decode cX10_fits 24 = .ok (.invokevirtual 373, 3) := by decide +kernel
theorem dX10_fits_27 : decode cX10_fits 27 = .ok (.invokevirtual 317, 3) := by decide +kernel
theorem dX10_fits_30 : decode cX10_fits 30 = .ok (.ireturn, 1) := by decide +kernel
theorem dX10_fit_0 : decode cX10_fit 0 = .ok (.aload_n 0, 1) := by decide +kernel
theorem dX10_fit_1 : decode cX10_fit 1 = .ok (.iconst 0, 1) := by decide +kernel
theorem dX10_fit_2 : decode cX10_fit 2 = .ok (.putfield 46, 3) := by decide +kernel
theorem dX10_fit_5 : decode cX10_fit 5 = .ok (.aload_n 0, 1) := by decide +kernel
theorem dX10_fit_6 : decode cX10_fit 6 = .ok (.getfield 312, 3) := by decide +kernel
theorem dX10_fit_9 : decode cX10_fit 9 = .ok (.ifnonnull 9, 3) := by decide +kernel
theorem dX10_fit_12 : decode cX10_fit 12 = .ok (.aload_n 0, 1) := by decide +kernel
theorem dX10_fit_13 : decode cX10_fit 13 = .ok (.iconst 1, 1) := by decide +kernel
theorem dX10_fit_14 : decode cX10_fit 14 = .ok (.invokevirtual 305, 3) := by decide +kernel
theorem dX10_fit_17 : decode cX10_fit 17 = .ok (.ireturn, 1) := by decide +kernel
theorem dX10_fit_18 : decode cX10_fit 18 = .ok (.iconst 0, 1) := by decide +kernel
theorem dX10_fit_19 : decode cX10_fit 19 = .ok (.istore_n 2, 1) := by decide +kernel
theorem dX10_fit_20 : decode cX10_fit 20 = .ok (.iconst 0, 1) := by decide +kernel
theorem dX10_fit_21 : decode cX10_fit 21 = .ok (.istore_n 3, 1) := by decide +kernel
theorem dX10_fit_22 : decode cX10_fit 22 = .ok (.iload_n 3, 1) := by decide +kernel
theorem dX10_fit_23 : decode cX10_fit 23 = .ok (.aload_n 0, 1) := by decide +kernel
theorem dX10_fit_24 : decode cX10_fit 24 = .ok (.getfield 312, 3) := by decide +kernel
theorem dX10_fit_27 : decode cX10_fit 27 = .ok (.getfield 173, 3) := by decide +kernel
theorem dX10_fit_30 : decode cX10_fit 30 = .ok (.if_icmp .ge 36, 3) := by decide +kernel
theorem dX10_fit_33 : decode cX10_fit 33 = .ok (.aload_n 0, 1) := by decide +kernel
theorem dX10_fit_34 : decode cX10_fit 34 = .ok (.iload_n 3, 1) := by decide +kernel
theorem dX10_fit_35 : decode cX10_fit 35 = .ok (.bipush 59, 2) := by decide +kernel
theorem dX10_fit_37 : decode cX10_fit 37 = .ok (.invokevirtual 369, 3) := by decide +kernel
theorem dX10_fit_40 : decode cX10_fit 40 = .ok (.ifCond .ne 6, 3) := by decide +kernel
theorem dX10_fit_43 : decode cX10_fit 43 = .ok (.goto 17, 3) := by decide +kernel
theorem dX10_fit_46 : decode cX10_fit 46 = .ok (.iload_n 2, 1) := by decide +kernel
theorem dX10_fit_47 : decode cX10_fit 47 = .ok (.iload_n 1, 1) := by decide +kernel
theorem dX10_fit_48 : decode cX10_fit 48 = .ok (.if_icmp .ne 9, 3) := by decide +kernel
theorem dX10_fit_51 : decode cX10_fit 51 = .ok (.aload_n 0, 1) := by decide +kernel
theorem dX10_fit_52 : decode cX10_fit 52 = .ok (.iload_n 3, 1) := by decide +kernel
theorem dX10_fit_53 : decode cX10_fit 53 = .ok (.invokevirtual 317, 3) := by decide +kernel
theorem dX10_fit_56 : decode cX10_fit 56 = .ok (.ireturn, 1) := by decide +kernel
theorem dX10_fit_57 : decode cX10_fit 57 = .ok (.iinc 2 1, 3) := by decide +kernel
theorem dX10_fit_60 : decode cX10_fit 60 = .ok (.iinc 3 1, 3) := by decide +kernel
theorem dX10_fit_63 : decode cX10_fit 63 = .ok (.goto (-41), 3) := by decide +kernel
theorem dX10_fit_66 : decode cX10_fit 66 = .ok (.aload_n 0, 1) := by decide +kernel
theorem dX10_fit_67 : decode cX10_fit 67 = .ok (.iconst 1, 1) := by decide +kernel
theorem dX10_fit_68 : decode cX10_fit 68 = .ok (.invokevirtual 305, 3) := by decide +kernel
theorem dX10_fit_71 : decode cX10_fit 71 = .ok (.ireturn, 1) := by decide +kernel
theorem dX10_weight_0 : decode cX10_weight 0 = .ok (.aload_n 0, 1) := by decide +kernel
theorem dX10_weight_1 : decode cX10_weight 1 = .ok (.iconst 0, 1) := by decide +kernel
theorem dX10_weight_2 : decode cX10_weight 2 = .ok (.putfield 46, 3) := by decide +kernel
theorem dX10_weight_5 : decode cX10_weight 5 = .ok (.aload_n 0, 1) := by decide +kernel
theorem dX10_weight_6 : decode cX10_weight 6 = .ok (.getfield 312, 3) := by decide +kernel
theorem dX10_weight_9 : decode cX10_weight 9 = .ok (.ifnull 16, 3) := by decide +kernel
theorem dX10_weight_12 : decode cX10_weight 12 = .ok (.iload_n 1, 1) := by decide +kernel
theorem dX10_weight_13 : decode cX10_weight 13 = .ok (.iconst (-1), 1) := by decide +kernel
theorem dX10_weight_14 : decode cX10_weight 14 = .ok (.if_icmp .eq 17, 3) := by decide +kernel
theorem dX10_weight_17 : decode cX10_weight 17 = .ok (.aload_n 0, 1) := by decide +kernel
theorem dX10_weight_18 : decode cX10_weight 18 = .ok (.iload_n 1, 1) := by decide +kernel
theorem dX10_weight_19 : decode cX10_weight 19 = .ok (.invokevirtual 353, 3) := by decide +kernel
theorem dX10_weight_22 : decode cX10_weight 22 = .ok (.ifCond .ne 9, 3) := by decide +kernel
theorem dX10_weight_25 : decode cX10_weight 25 = .ok (.aload_n 0, 1) := by decide +kernel
theorem dX10_weight_26 : decode cX10_weight 26 = .ok (.iconst 1, 1) := by decide +kernel
theorem dX10_weight_27 : decode cX10_weight 27 = .ok (.invokevirtual 305, 3) := by decide +kernel
theorem dX10_weight_30 : decode cX10_weight 30 = .ok (.ireturn, 1) := by decide +kernel
theorem dX10_weight_31 : decode cX10_weight 31 = .ok (.iload_n 1, 1) := by decide +kernel
theorem dX10_weight_32 : decode cX10_weight 32 = .ok (.iconst (-1), 1) := by decide +kernel
theorem dX10_weight_33 : decode cX10_weight 33 = .ok (.if_icmp .ne 12, 3) := by decide +kernel
theorem dX10_weight_36 : decode cX10_weight 36 = .ok (.aload_n 0, 1) := by decide +kernel
theorem dX10_weight_37 : decode cX10_weight 37 = .ok (.aload_n 0, 1) := by decide +kernel
theorem dX10_weight_38 : decode cX10_weight 38 = .ok (.invokevirtual 376, 3) := by decide +kernel
theorem dX10_weight_41 : decode cX10_weight 41 = .ok (.invokevirtual 317, 3) := by decide +kernel
theorem dX10_weight_44 : decode cX10_weight 44 = .ok (.ireturn, 1) := by decide +kernel
theorem dX10_weight_45 : decode cX10_weight 45 = .ok (.aload_n 0, 1) := by decide +kernel
theorem dX10_weight_46 : decode cX10_weight 46 = .ok (.aload_n 0, 1) := by decide +kernel
theorem dX10_weight_47 : decode cX10_weight 47 = .ok (.iload_n 1, 1) := by decide +kernel
theorem dX10_weight_48 : decode cX10_weight 48 = .ok (.bipush 59, 2) := by decide +kernel
theorem dX10_weight_50 : decode cX10_weight 50 = .ok (.invokevirtual 369, 3) := by decide +kernel
theorem dX10_weight_53 : decode cX10_weight 53 = .ok (.ifCond .eq 15, 3) := by decide +kernel
theorem dX10_weight_56 : decode cX10_weight 56 = .ok (.aload_n 0, 1) := by decide +kernel
theorem dX10_weight_57 : decode cX10_weight 57 = .ok (.getfield 312, 3) := by decide +kernel
theorem dX10_weight_60 : decode cX10_weight 60 = .ok (.getfield 263, 3) := by decide +kernel
theorem dX10_weight_63 : decode cX10_weight 63 = .ok (.iload_n 1, 1) := by decide +kernel
theorem dX10_weight_64 : decode cX10_weight 64 = .ok (.iaload, 1) := by decide +kernel
theorem dX10_weight_65 : decode cX10_weight 65 = .ok (.goto 4, 3) := by decide +kernel
theorem dX10_weight_68 : decode cX10_weight 68 = .ok (.iconst 0, 1) := by decide +kernel
theorem dX10_weight_69 : decode cX10_weight 69 = .ok (.invokevirtual 317, 3) := by decide +kernel
theorem dX10_weight_72 : decode cX10_weight 72 = .ok (.ireturn, 1) := by decide +kernel
theorem dX10_clear_0 : decode cX10_clear 0 = .ok (.aload_n 0, 1) := by decide +kernel
theorem dX10_clear_1 : decode cX10_clear 1 = .ok (.iconst 0, 1) := by decide +kernel
theorem dX10_clear_2 : decode cX10_clear 2 = .ok (.putfield 46, 3) := by decide +kernel
theorem dX10_clear_5 : decode cX10_clear 5 = .ok (.aload_n 0, 1) := by decide +kernel
theorem dX10_clear_6 : decode cX10_clear 6 = .ok (.getfield 312, 3) := by decide +kernel
theorem dX10_clear_9 : decode cX10_clear 9 = .ok (.ifnonnull 9, 3) := by decide +kernel
theorem dX10_clear_12 : decode cX10_clear 12 = .ok (.aload_n 0, 1) := by decide +kernel
theorem dX10_clear_13 : decode cX10_clear 13 = .ok (.iconst 1, 1) := by decide +kernel
theorem dX10_clear_14 : decode cX10_clear 14 = .ok (.invokevirtual 305, 3) := by decide +kernel
theorem dX10_clear_17 : decode cX10_clear 17 = .ok (.ireturn, 1) := by decide +kernel
theorem dX10_clear_18 : decode cX10_clear 18 = .ok (.iconst 0, 1) := by decide +kernel
theorem dX10_clear_19 : decode cX10_clear 19 = .ok (.istore_n 1, 1) := by decide +kernel
theorem dX10_clear_20 : decode cX10_clear 20 = .ok (.iload_n 1, 1) := by decide +kernel
theorem dX10_clear_21 : decode cX10_clear 21 = .ok (.bipush 60, 2) := by decide +kernel
theorem dX10_clear_23 : decode cX10_clear 23 = .ok (.if_icmp .ge 24, 3) := by decide +kernel
theorem dX10_clear_26 : decode cX10_clear 26 = .ok (.aload_n 0, 1) := by decide +kernel
theorem dX10_clear_27 : decode cX10_clear 27 = .ok (.iload_n 1, 1) := by decide +kernel
theorem dX10_clear_28 : decode cX10_clear 28 = .ok (.invokevirtual 373, 3) := by decide +kernel
theorem dX10_clear_31 : decode cX10_clear 31 = .ok (.iconst 1, 1) := by decide +kernel
theorem dX10_clear_32 : decode cX10_clear 32 = .ok (.if_icmp .ne 9, 3) := by decide +kernel
theorem dX10_clear_35 : decode cX10_clear 35 = .ok (.aload_n 0, 1) := by decide +kernel
theorem dX10_clear_36 : decode cX10_clear 36 = .ok (.iload_n 1, 1) := by decide +kernel
theorem dX10_clear_37 : decode cX10_clear 37 = .ok (.invokevirtual 317, 3) := by decide +kernel
theorem dX10_clear_40 : decode cX10_clear 40 = .ok (.ireturn, 1) := by decide +kernel
theorem dX10_clear_41 : decode cX10_clear 41 = .ok (.iinc 1 1, 3) := by decide +kernel
theorem dX10_clear_44 : decode cX10_clear 44 = .ok (.goto (-24), 3) := by decide +kernel
theorem dX10_clear_47 : decode cX10_clear 47 = .ok (.aload_n 0, 1) := by decide +kernel
theorem dX10_clear_48 : decode cX10_clear 48 = .ok (.bipush (-2), 2) := by decide +kernel
theorem dX10_clear_50 : decode cX10_clear 50 = .ok (.invokevirtual 317, 3) := by decide +kernel
theorem dX10_clear_53 : decode cX10_clear 53 = .ok (.ireturn, 1) := by decide +kernel
theorem dX10_isLetting_0 : decode cX10_isLetting 0 = .ok (.aload_n 0, 1) := by decide +kernel
theorem dX10_isLetting_1 : decode cX10_isLetting 1 = .ok (.iload_n 1, 1) := by decide +kernel
theorem dX10_isLetting_2 : decode cX10_isLetting 2 = .ok (.invokevirtual 378, 3) := by decide +kernel
theorem dX10_isLetting_5 : decode cX10_isLetting 5 = .ok (.aload_n 0, 1) := by decide +kernel
theorem dX10_isLetting_6 : decode cX10_isLetting 6 = .ok (.iload_n 1, 1) := by decide +kernel
theorem dX10_isLetting_7 : decode cX10_isLetting 7 = .ok (.iconst 1, 1) := by decide +kernel
theorem dX10_isLetting_8 : decode cX10_isLetting 8 = .ok (.isub, 1) := by decide +kernel
theorem dX10_isLetting_9 : decode cX10_isLetting 9 = .ok (.invokevirtual 378, 3) := by decide +kernel
theorem dX10_isLetting_12 : decode cX10_isLetting 12 = .ok (.if_icmp .ge 28, 3) := by decide +kernel
theorem dX10_isLetting_15 : decode cX10_isLetting 15 = .ok (.iload_n 1, 1) := by decide +kernel
theorem dX10_isLetting_16 : decode cX10_isLetting 16 = .ok (.ifCond .eq 20, 3) := by decide +kernel
theorem dX10_isLetting_19 : decode cX10_isLetting 19 = .ok (.aload_n 0, 1) := by decide +kernel
theorem dX10_isLetting_20 : decode cX10_isLetting 20 = .ok (.iload_n 1, 1) := by decide +kernel
theorem dX10_isLetting_21 : decode cX10_isLetting 21 = .ok (.iconst 1, 1) := by decide +kernel
theorem dX10_isLetting_22 : decode cX10_isLetting 22 = .ok (.isub, 1) := by decide +kernel
theorem dX10_isLetting_23 : decode cX10_isLetting 23 = .ok (.invokevirtual 378, 3) := by decide +kernel
theorem dX10_isLetting_26 : decode cX10_isLetting 26 = .ok (.aload_n 0, 1) := by decide +kernel
theorem dX10_isLetting_27 : decode cX10_isLetting 27 = .ok (.iload_n 1, 1) := by decide +kernel
theorem dX10_isLetting_28 : decode cX10_isLetting 28 = .ok (.iconst 2, 1) := by decide +kernel
theorem dX10_isLetting_29 : decode cX10_isLetting 29 = .ok (.isub, 1) := by decide +kernel
theorem dX10_isLetting_30 : decode cX10_isLetting 30 = .ok (.invokevirtual 378, 3) := by decide +kernel
theorem dX10_isLetting_33 : decode cX10_isLetting 33 = .ok (.if_icmp .lt 7, 3) := by decide +kernel
theorem dX10_isLetting_36 : decode cX10_isLetting 36 = .ok (.iconst 1, 1) := by decide +kernel
theorem dX10_isLetting_37 : decode cX10_isLetting 37 = .ok (.goto 4, 3) := by decide +kernel
theorem dX10_isLetting_40 : decode cX10_isLetting 40 = .ok (.iconst 0, 1) := by decide +kernel
theorem dX10_isLetting_41 : decode cX10_isLetting 41 = .ok (.ireturn, 1) := by decide +kernel
theorem dX10_lettingsOf_0 : decode cX10_lettingsOf 0 = .ok (.iconst 0, 1) := by decide +kernel
theorem dX10_lettingsOf_1 : decode cX10_lettingsOf 1 = .ok (.istore_n 1, 1) := by decide +kernel
theorem dX10_lettingsOf_2 : decode cX10_lettingsOf 2 = .ok (.iconst 0, 1) := by decide +kernel
theorem dX10_lettingsOf_3 : decode cX10_lettingsOf 3 = .ok (.istore_n 2, 1) := by decide +kernel
theorem dX10_lettingsOf_4 : decode cX10_lettingsOf 4 = .ok (.iload_n 2, 1) := by decide +kernel
theorem dX10_lettingsOf_5 : decode cX10_lettingsOf 5 = .ok (.bipush 60, 2) := by decide +kernel
theorem dX10_lettingsOf_7 : decode cX10_lettingsOf 7 = .ok (.if_icmp .ge 25, 3) := by decide +kernel
theorem dX10_lettingsOf_10 : decode cX10_lettingsOf 10 = .ok (.iload_n 1, 1) := by decide +kernel
theorem dX10_lettingsOf_11 : decode cX10_lettingsOf 11 = .ok (.aload_n 0, 1) := by decide +kernel
theorem dX10_lettingsOf_12 : decode cX10_lettingsOf 12 = .ok (.iload_n 2, 1) := by decide +kernel
theorem dX10_lettingsOf_13 : decode cX10_lettingsOf 13 = .ok (.invokevirtual 381, 3) := by decide +kernel
theorem dX10_lettingsOf_16 : decode cX10_lettingsOf 16 = .ok (.ifCond .eq 7, 3) := by decide +kernel
theorem dX10_lettingsOf_19 : decode cX10_lettingsOf 19 = .ok (.iconst 1, 1) := by decide +kernel
theorem dX10_lettingsOf_20 : decode cX10_lettingsOf 20 = .ok (.goto 4, 3) := by decide +kernel
theorem dX10_lettingsOf_23 : decode cX10_lettingsOf 23 = .ok (.iconst 0, 1) := by decide +kernel
theorem dX10_lettingsOf_24 : decode cX10_lettingsOf 24 = .ok (.iadd, 1) := by decide +kernel
theorem dX10_lettingsOf_25 : decode cX10_lettingsOf 25 = .ok (.istore_n 1, 1) := by decide +kernel
theorem dX10_lettingsOf_26 : decode cX10_lettingsOf 26 = .ok (.iinc 2 1, 3) := by decide +kernel
theorem dX10_lettingsOf_29 : decode cX10_lettingsOf 29 = .ok (.goto (-25), 3) := by decide +kernel
theorem dX10_lettingsOf_32 : decode cX10_lettingsOf 32 = .ok (.iload_n 1, 1) := by decide +kernel
theorem dX10_lettingsOf_33 : decode cX10_lettingsOf 33 = .ok (.ireturn, 1) := by decide +kernel
theorem dX10_lettings_0 : decode cX10_lettings 0 = .ok (.aload_n 0, 1) := by decide +kernel
theorem dX10_lettings_1 : decode cX10_lettings 1 = .ok (.iconst 0, 1) := by decide +kernel
theorem dX10_lettings_2 : decode cX10_lettings 2 = .ok (.putfield 46, 3) := by decide +kernel
theorem dX10_lettings_5 : decode cX10_lettings 5 = .ok (.aload_n 0, 1) := by decide +kernel
theorem dX10_lettings_6 : decode cX10_lettings 6 = .ok (.getfield 312, 3) := by decide +kernel
theorem dX10_lettings_9 : decode cX10_lettings 9 = .ok (.ifnonnull 9, 3) := by decide +kernel
theorem dX10_lettings_12 : decode cX10_lettings 12 = .ok (.aload_n 0, 1) := by decide +kernel
theorem dX10_lettings_13 : decode cX10_lettings 13 = .ok (.iconst 1, 1) := by decide +kernel
theorem dX10_lettings_14 : decode cX10_lettings 14 = .ok (.invokevirtual 305, 3) := by decide +kernel
theorem dX10_lettings_17 : decode cX10_lettings 17 = .ok (.ireturn, 1) := by decide +kernel
theorem dX10_lettings_18 : decode cX10_lettings 18 = .ok (.aload_n 0, 1) := by decide +kernel
theorem dX10_lettings_19 : decode cX10_lettings 19 = .ok (.bipush 60, 2) := by decide +kernel
theorem dX10_lettings_21 : decode cX10_lettings 21 = .ok (.iconst (-1), 1) := by decide +kernel
theorem dX10_lettings_22 : decode cX10_lettings 22 = .ok (.invokevirtual 326, 3) := by decide +kernel
theorem dX10_lettings_25 : decode cX10_lettings 25 = .ok (.aload_n 0, 1) := by decide +kernel
theorem dX10_lettings_26 : decode cX10_lettings 26 = .ok (.aload_n 0, 1) := by decide +kernel
theorem dX10_lettings_27 : decode cX10_lettings 27 = .ok (.invokevirtual 384, 3) := by decide +kernel
theorem dX10_lettings_30 : decode cX10_lettings 30 = .ok (.invokevirtual 317, 3) := by decide +kernel
theorem dX10_lettings_33 : decode cX10_lettings 33 = .ok (.ireturn, 1) := by decide +kernel
theorem dX10_isHeld_0 : decode cX10_isHeld 0 = .ok (.iload_n 1, 1) := by decide +kernel
theorem dX10_isHeld_1 : decode cX10_isHeld 1 = .ok (.iconst 5, 1) := by decide +kernel
theorem dX10_isHeld_2 : decode cX10_isHeld 2 = .ok (.iadd, 1) := by decide +kernel
theorem dX10_isHeld_3 : decode cX10_isHeld 3 = .ok (.bipush 59, 2) := by decide +kernel
theorem dX10_isHeld_5 : decode cX10_isHeld 5 = .ok (.if_icmp .le 8, 3) := by decide +kernel
theorem dX10_isHeld_8 : decode cX10_isHeld 8 = .ok (.bipush 59, 2) := by decide +kernel
theorem dX10_isHeld_10 : decode cX10_isHeld 10 = .ok (.goto 6, 3) := by decide +kernel
theorem dX10_isHeld_13 : decode cX10_isHeld 13 = .ok (.iload_n 1, 1) := by decide +kernel
theorem dX10_isHeld_14 : decode cX10_isHeld 14 = .ok (.iconst 5, 1) := by decide +kernel
theorem dX10_isHeld_15 : decode cX10_isHeld 15 = .ok (.iadd, 1) := by decide +kernel
theorem dX10_isHeld_16 : decode cX10_isHeld 16 = .ok (.istore_n 2, 1) := by decide +kernel
theorem dX10_isHeld_17 : decode cX10_isHeld 17 = .ok (.aload_n 0, 1) := by decide +kernel
theorem dX10_isHeld_18 : decode cX10_isHeld 18 = .ok (.iload_n 2, 1) := by decide +kernel
theorem dX10_isHeld_19 : decode cX10_isHeld 19 = .ok (.invokevirtual 362, 3) := by decide +kernel
theorem dX10_isHeld_22 : decode cX10_isHeld 22 = .ok (.aload_n 0, 1) := by decide +kernel
theorem dX10_isHeld_23 : decode cX10_isHeld 23 = .ok (.iload_n 1, 1) := by decide +kernel
theorem dX10_isHeld_24 : decode cX10_isHeld 24 = .ok (.iconst 1, 1) := by decide +kernel
theorem dX10_isHeld_25 : decode cX10_isHeld 25 = .ok (.isub, 1) := by decide +kernel
theorem dX10_isHeld_26 : decode cX10_isHeld 26 = .ok (.invokevirtual 362, 3) := by decide +kernel
theorem dX10_isHeld_29 : decode cX10_isHeld 29 = .ok (.if_icmp .ge 24, 3) := by decide +kernel
theorem dX10_isHeld_32 : decode cX10_isHeld 32 = .ok (.aload_n 0, 1) := by decide +kernel
theorem dX10_isHeld_33 : decode cX10_isHeld 33 = .ok (.getfield 338, 3) := by decide +kernel
theorem dX10_isHeld_36 : decode cX10_isHeld 36 = .ok (.bipush (-2), 2) := by decide +kernel
theorem dX10_isHeld_38 : decode cX10_isHeld 38 = .ok (.if_icmp .eq 11, 3) := by decide +kernel
theorem dX10_isHeld_41 : decode cX10_isHeld 41 = .ok (.aload_n 0, 1) := by decide +kernel
theorem dX10_isHeld_42 : decode cX10_isHeld 42 = .ok (.getfield 338, 3) := by decide +kernel
theorem dX10_isHeld_45 : decode cX10_isHeld 45 = .ok (.iload_n 2, 1) := by decide +kernel
theorem dX10_isHeld_46 : decode cX10_isHeld 46 = .ok (.if_icmp .le 7, 3) := by decide +kernel
theorem dX10_isHeld_49 : decode cX10_isHeld 49 = .ok (.iconst 1, 1) := by decide +kernel
theorem dX10_isHeld_50 : decode cX10_isHeld 50 = .ok (.goto 4, 3) := by decide +kernel
theorem dX10_isHeld_53 : decode cX10_isHeld 53 = .ok (.iconst 0, 1) := by decide +kernel
theorem dX10_isHeld_54 : decode cX10_isHeld 54 = .ok (.ireturn, 1) := by decide +kernel
theorem dX10_tapOf_0 : decode cX10_tapOf 0 = .ok (.aload_n 0, 1) := by decide +kernel
theorem dX10_tapOf_1 : decode cX10_tapOf 1 = .ok (.iload_n 1, 1) := by decide +kernel
theorem dX10_tapOf_2 : decode cX10_tapOf 2 = .ok (.invokevirtual 359, 3) := by decide +kernel
theorem dX10_tapOf_5 : decode cX10_tapOf 5 = .ok (.iconst 0, 1) := by decide +kernel
theorem dX10_tapOf_6 : decode cX10_tapOf 6 = .ok (.istore_n 2, 1) := by decide +kernel
theorem dX10_tapOf_7 : decode cX10_tapOf 7 = .ok (.iconst 0, 1) := by decide +kernel
theorem dX10_tapOf_8 : decode cX10_tapOf 8 = .ok (.istore_n 3, 1) := by decide +kernel
theorem dX10_tapOf_9 : decode cX10_tapOf 9 = .ok (.iload_n 3, 1) := by decide +kernel
theorem dX10_tapOf_10 : decode cX10_tapOf 10 = .ok (.bipush 60, 2) := by decide +kernel
theorem dX10_tapOf_12 : decode cX10_tapOf 12 = .ok (.if_icmp .ge 33, 3) := by decide +kernel
theorem dX10_tapOf_15 : decode cX10_tapOf 15 = .ok (.aload_n 0, 1) := by decide +kernel
theorem dX10_tapOf_16 : decode cX10_tapOf 16 = .ok (.iload_n 3, 1) := by decide +kernel
theorem dX10_tapOf_17 : decode cX10_tapOf 17 = .ok (.invokevirtual 381, 3) := by decide +kernel
theorem dX10_tapOf_20 : decode cX10_tapOf 20 = .ok (.ifCond .ne 6, 3) := by decide +kernel
theorem dX10_tapOf_23 : decode cX10_tapOf 23 = .ok (.goto 16, 3) := by decide +kernel
theorem dX10_tapOf_26 : decode cX10_tapOf 26 = .ok (.aload_n 0, 1) := by decide +kernel
theorem dX10_tapOf_27 : decode cX10_tapOf 27 = .ok (.iload_n 3, 1) := by decide +kernel
theorem dX10_tapOf_28 : decode cX10_tapOf 28 = .ok (.invokevirtual 387, 3) := by decide +kernel
theorem dX10_tapOf_31 : decode cX10_tapOf 31 = .ok (.ifCond .ne 5, 3) := by decide +kernel
theorem dX10_tapOf_34 : decode cX10_tapOf 34 = .ok (.iload_n 2, 1) := by decide +kernel
theorem dX10_tapOf_35 : decode cX10_tapOf 35 = .ok (.ireturn, 1) := by decide +kernel
theorem dX10_tapOf_36 : decode cX10_tapOf 36 = .ok (.iinc 2 1, 3) := by decide +kernel
theorem dX10_tapOf_39 : decode cX10_tapOf 39 = .ok (.iinc 3 1, 3) := by decide +kernel
theorem dX10_tapOf_42 : decode cX10_tapOf 42 = .ok (.goto (-33), 3) := by decide +kernel
theorem dX10_tapOf_45 : decode cX10_tapOf 45 = .ok (.iload_n 2, 1) := by decide +kernel
theorem dX10_tapOf_46 : decode cX10_tapOf 46 = .ok (.ireturn, 1) := by decide +kernel
theorem dX10_tap_0 : decode cX10_tap 0 = .ok (.aload_n 0, 1) := by decide +kernel
theorem dX10_tap_1 : decode cX10_tap 1 = .ok (.iconst 0, 1) := by decide +kernel
theorem dX10_tap_2 : decode cX10_tap 2 = .ok (.putfield 46, 3) := by decide +kernel
theorem dX10_tap_5 : decode cX10_tap 5 = .ok (.aload_n 0, 1) := by decide +kernel
theorem dX10_tap_6 : decode cX10_tap 6 = .ok (.iload_n 1, 1) := by decide +kernel
theorem dX10_tap_7 : decode cX10_tap 7 = .ok (.invokevirtual 353, 3) := by decide +kernel
theorem dX10_tap_10 : decode cX10_tap 10 = .ok (.ifCond .eq 15, 3) := by decide +kernel
theorem dX10_tap_13 : decode cX10_tap 13 = .ok (.aload_n 0, 1) := by decide +kernel
theorem dX10_tap_14 : decode cX10_tap 14 = .ok (.aload_n 0, 1) := by decide +kernel
theorem dX10_tap_15 : decode cX10_tap 15 = .ok (.iload_n 1, 1) := by decide +kernel
theorem dX10_tap_16 : decode cX10_tap 16 = .ok (.invokevirtual 390, 3) := by decide +kernel
theorem dX10_tap_19 : decode cX10_tap 19 = .ok (.invokevirtual 317, 3) := by decide +kernel
theorem dX10_tap_22 : decode cX10_tap 22 = .ok (.goto 8, 3) := by decide +kernel
theorem dX10_tap_25 : decode cX10_tap 25 = .ok (.aload_n 0, 1) := by decide +kernel
theorem dX10_tap_26 : decode cX10_tap 26 = .ok (.iconst 1, 1) := by decide +kernel
theorem dX10_tap_27 : decode cX10_tap 27 = .ok (.invokevirtual 305, 3) := by decide +kernel
theorem dX10_tap_30 : decode cX10_tap 30 = .ok (.ireturn, 1) := by decide +kernel
theorem dX10_fooled_0 : decode cX10_fooled 0 = .ok (.aload_n 0, 1) := by decide +kernel
theorem dX10_fooled_1 : decode cX10_fooled 1 = .ok (.iconst 0, 1) := by decide +kernel
theorem dX10_fooled_2 : decode cX10_fooled 2 = .ok (.putfield 46, 3) := by decide +kernel
theorem dX10_fooled_5 : decode cX10_fooled 5 = .ok (.aload_n 0, 1) := by decide +kernel
theorem dX10_fooled_6 : decode cX10_fooled 6 = .ok (.getfield 312, 3) := by decide +kernel
theorem dX10_fooled_9 : decode cX10_fooled 9 = .ok (.ifnonnull 9, 3) := by decide +kernel
theorem dX10_fooled_12 : decode cX10_fooled 12 = .ok (.aload_n 0, 1) := by decide +kernel
theorem dX10_fooled_13 : decode cX10_fooled 13 = .ok (.iconst 1, 1) := by decide +kernel
theorem dX10_fooled_14 : decode cX10_fooled 14 = .ok (.invokevirtual 305, 3) := by decide +kernel
theorem dX10_fooled_17 : decode cX10_fooled 17 = .ok (.ireturn, 1) := by decide +kernel
theorem dX10_fooled_18 : decode cX10_fooled 18 = .ok (.iload_n 1, 1) := by decide +kernel
theorem dX10_fooled_19 : decode cX10_fooled 19 = .ok (.ifCond .ge 9, 3) := by decide +kernel
theorem dX10_fooled_22 : decode cX10_fooled 22 = .ok (.aload_n 0, 1) := by decide +kernel
theorem dX10_fooled_23 : decode cX10_fooled 23 = .ok (.iconst 2, 1) := by decide +kernel
theorem dX10_fooled_24 : decode cX10_fooled 24 = .ok (.invokevirtual 305, 3) := by decide +kernel
theorem dX10_fooled_27 : decode cX10_fooled 27 = .ok (.ireturn, 1) := by decide +kernel
theorem dX10_fooled_28 : decode cX10_fooled 28 = .ok (.iconst 0, 1) := by decide +kernel
theorem dX10_fooled_29 : decode cX10_fooled 29 = .ok (.istore_n 2, 1) := by decide +kernel
theorem dX10_fooled_30 : decode cX10_fooled 30 = .ok (.iload_n 2, 1) := by decide +kernel
theorem dX10_fooled_31 : decode cX10_fooled 31 = .ok (.aload_n 0, 1) := by decide +kernel
theorem dX10_fooled_32 : decode cX10_fooled 32 = .ok (.getfield 312, 3) := by decide +kernel
theorem dX10_fooled_35 : decode cX10_fooled 35 = .ok (.getfield 173, 3) := by decide +kernel
theorem dX10_fooled_38 : decode cX10_fooled 38 = .ok (.if_icmp .ge 32, 3) := by decide +kernel
theorem dX10_fooled_41 : decode cX10_fooled 41 = .ok (.aload_n 0, 1) := by decide +kernel
theorem dX10_fooled_42 : decode cX10_fooled 42 = .ok (.iload_n 2, 1) := by decide +kernel
theorem dX10_fooled_43 : decode cX10_fooled 43 = .ok (.invokevirtual 390, 3) := by decide +kernel
theorem dX10_fooled_46 : decode cX10_fooled 46 = .ok (.iload_n 1, 1) := by decide +kernel
theorem dX10_fooled_47 : decode cX10_fooled 47 = .ok (.if_icmp .ne 17, 3) := by decide +kernel
theorem dX10_fooled_50 : decode cX10_fooled 50 = .ok (.aload_n 0, 1) := by decide +kernel
theorem dX10_fooled_51 : decode cX10_fooled 51 = .ok (.invokevirtual 384, 3) := by decide +kernel
theorem dX10_fooled_54 : decode cX10_fooled 54 = .ok (.iload_n 1, 1) := by decide +kernel
theorem dX10_fooled_55 : decode cX10_fooled 55 = .ok (.if_icmp .le 9, 3) := by decide +kernel
theorem dX10_fooled_58 : decode cX10_fooled 58 = .ok (.aload_n 0, 1) := by decide +kernel
theorem dX10_fooled_59 : decode cX10_fooled 59 = .ok (.iload_n 2, 1) := by decide +kernel
theorem dX10_fooled_60 : decode cX10_fooled 60 = .ok (.invokevirtual 317, 3) := by decide +kernel
theorem dX10_fooled_63 : decode cX10_fooled 63 = .ok (.ireturn, 1) := by decide +kernel
theorem dX10_fooled_64 : decode cX10_fooled 64 = .ok (.iinc 2 1, 3) := by decide +kernel
theorem dX10_fooled_67 : decode cX10_fooled 67 = .ok (.goto (-37), 3) := by decide +kernel
theorem dX10_fooled_70 : decode cX10_fooled 70 = .ok (.aload_n 0, 1) := by decide +kernel
theorem dX10_fooled_71 : decode cX10_fooled 71 = .ok (.bipush (-2), 2) := by decide +kernel
theorem dX10_fooled_73 : decode cX10_fooled 73 = .ok (.invokevirtual 317, 3) := by decide +kernel
theorem dX10_fooled_76 : decode cX10_fooled 76 = .ok (.ireturn, 1) := by decide +kernel
theorem dX10_noughtBy_0 : decode cX10_noughtBy 0 = .ok (.iload_n 1, 1) := by decide +kernel
theorem dX10_noughtBy_1 : decode cX10_noughtBy 1 = .ok (.ifCond .le 18, 3) := by decide +kernel
theorem dX10_noughtBy_4 : decode cX10_noughtBy 4 = .ok (.iload_n 2, 1) := by decide +kernel
theorem dX10_noughtBy_5 : decode cX10_noughtBy 5 = .ok (.iload_n 1, 1) := by decide +kernel
theorem dX10_noughtBy_6 : decode cX10_noughtBy 6 = .ok (.if_icmp .le 13, 3) := by decide +kernel
theorem dX10_noughtBy_9 : decode cX10_noughtBy 9 = .ok (.iload_n 0, 1) := by decide +kernel
theorem dX10_noughtBy_10 : decode cX10_noughtBy 10 = .ok (.iload_n 2, 1) := by decide +kernel
theorem dX10_noughtBy_11 : decode cX10_noughtBy 11 = .ok (.iload_n 2, 1) := by decide +kernel
theorem dX10_noughtBy_12 : decode cX10_noughtBy 12 = .ok (.iload_n 1, 1) := by decide +kernel
theorem dX10_noughtBy_13 : decode cX10_noughtBy 13 = .ok (.isub, 1) := by decide +kernel
theorem dX10_noughtBy_14 : decode cX10_noughtBy 14 = .ok (.idiv, 1) := by decide +kernel
theorem dX10_noughtBy_15 : decode cX10_noughtBy 15 = .ok (.iadd, 1) := by decide +kernel
theorem dX10_noughtBy_16 : decode cX10_noughtBy 16 = .ok (.goto 5, 3) := by decide +kernel
theorem dX10_noughtBy_19 : decode cX10_noughtBy 19 = .ok (.bipush (-2), 2) := by decide +kernel
theorem dX10_noughtBy_21 : decode cX10_noughtBy 21 = .ok (.ireturn, 1) := by decide +kernel
theorem dX10_isLine_0 : decode cX10_isLine 0 = .ok (.aload_n 0, 1) := by decide +kernel
theorem dX10_isLine_1 : decode cX10_isLine 1 = .ok (.iload_n 1, 1) := by decide +kernel
theorem dX10_isLine_2 : decode cX10_isLine 2 = .ok (.invokevirtual 353, 3) := by decide +kernel
theorem dX10_isLine_5 : decode cX10_isLine 5 = .ok (.ifCond .eq 25, 3) := by decide +kernel
theorem dX10_isLine_8 : decode cX10_isLine 8 = .ok (.aload_n 0, 1) := by decide +kernel
theorem dX10_isLine_9 : decode cX10_isLine 9 = .ok (.iload_n 2, 1) := by decide +kernel
theorem dX10_isLine_10 : decode cX10_isLine 10 = .ok (.invokevirtual 356, 3) := by decide +kernel
theorem dX10_isLine_13 : decode cX10_isLine 13 = .ok (.ifCond .eq 17, 3) := by decide +kernel
theorem dX10_isLine_16 : decode cX10_isLine 16 = .ok (.iload_n 3, 1) := by decide +kernel
theorem dX10_isLine_17 : decode cX10_isLine 17 = .ok (.ifCond .lt 13, 3) := by decide +kernel
theorem dX10_isLine_20 : decode cX10_isLine 20 = .ok (.iload_n 3, 1) := by decide +kernel
theorem dX10_isLine_21 : decode cX10_isLine 21 = .ok (.bipush 59, 2) := by decide +kernel
theorem dX10_isLine_23 : decode cX10_isLine 23 = .ok (.if_icmp .ge 7, 3) := by decide +kernel
theorem dX10_isLine_26 : decode cX10_isLine 26 = .ok (.iconst 1, 1) := by decide +kernel
theorem dX10_isLine_27 : decode cX10_isLine 27 = .ok (.goto 4, 3) := by decide +kernel
theorem dX10_isLine_30 : decode cX10_isLine 30 = .ok (.iconst 0, 1) := by decide +kernel
theorem dX10_isLine_31 : decode cX10_isLine 31 = .ok (.ireturn, 1) := by decide +kernel
theorem dX10_nought_0 : decode cX10_nought 0 = .ok (.aload_n 0, 1) := by decide +kernel
theorem dX10_nought_1 : decode cX10_nought 1 = .ok (.iconst 0, 1) := by decide +kernel
theorem dX10_nought_2 : decode cX10_nought 2 = .ok (.putfield 46, 3) := by decide +kernel
theorem dX10_nought_5 : decode cX10_nought 5 = .ok (.aload_n 0, 1) := by decide +kernel
theorem dX10_nought_6 : decode cX10_nought 6 = .ok (.iload_n 1, 1) := by decide +kernel
theorem dX10_nought_7 : decode cX10_nought 7 = .ok (.iload_n 2, 1) := by decide +kernel
theorem dX10_nought_8 : decode cX10_nought 8 = .ok (.iload_n 3, 1) := by decide +kernel
theorem dX10_nought_9 : decode cX10_nought 9 = .ok (.invokevirtual 393, 3) := by decide +kernel
theorem dX10_nought_12 : decode cX10_nought 12 = .ok (.ifCond .ne 9, 3) := by decide +kernel
theorem dX10_nought_15 : decode cX10_nought 15 = .ok (.aload_n 0, 1) := by decide +kernel
theorem dX10_nought_16 : decode cX10_nought 16 = .ok (.iconst 1, 1) := by decide +kernel
theorem dX10_nought_17 : decode cX10_nought 17 = .ok (.invokevirtual 305, 3) := by decide +kernel
theorem dX10_nought_20 : decode cX10_nought 20 = .ok (.ireturn, 1) := by decide +kernel
theorem dX10_nought_21 : decode cX10_nought 21 = .ok (.aload_n 0, 1) := by decide +kernel
theorem dX10_nought_22 : decode cX10_nought 22 = .ok (.iload_n 1, 1) := by decide +kernel
theorem dX10_nought_23 : decode cX10_nought 23 = .ok (.invokevirtual 359, 3) := by decide +kernel
theorem dX10_nought_26 : decode cX10_nought 26 = .ok (.bipush 60, 2) := by decide +kernel
theorem dX10_nought_28 : decode cX10_nought 28 = .ok (.iload_n 2, 1) := by decide +kernel
theorem dX10_nought_29 : decode cX10_nought 29 = .ok (.imul, 1) := by decide +kernel
theorem dX10_nought_30 : decode cX10_nought 30 = .ok (.iload_n 3, 1) := by decide +kernel
theorem dX10_nought_31 : decode cX10_nought 31 = .ok (.iadd, 1) := by decide +kernel
theorem dX10_nought_32 : decode cX10_nought 32 = .ok (.istore 4, 2) := by decide +kernel
theorem dX10_nought_34 : decode cX10_nought 34 = .ok (.aload_n 0, 1) := by decide +kernel
theorem dX10_nought_35 : decode cX10_nought 35 = .ok (.iload_n 3, 1) := by decide +kernel
theorem dX10_nought_36 : decode cX10_nought 36 = .ok (.aload_n 0, 1) := by decide +kernel
theorem dX10_nought_37 : decode cX10_nought 37 = .ok (.getfield 21, 3) := by decide +kernel
theorem dX10_nought_40 : decode cX10_nought 40 = .ok (.iload 4, 2) := by decide +kernel
theorem dX10_nought_42 : decode cX10_nought 42 = .ok (.iaload, 1) := by decide +kernel
theorem dX10_nought_43 : decode cX10_nought 43 = .ok (.aload_n 0, 1) := by decide +kernel
theorem dX10_nought_44 : decode cX10_nought 44 = .ok (.getfield 21, 3) := by decide +kernel
theorem dX10_nought_47 : decode cX10_nought 47 = .ok (.iload 4, 2) := by decide +kernel
theorem dX10_nought_49 : decode cX10_nought 49 = .ok (.iconst 1, 1) := by decide +kernel
theorem dX10_nought_50 : decode cX10_nought 50 = .ok (.iadd, 1) := by decide +kernel
theorem dX10_nought_51 : decode cX10_nought 51 = .ok (.iaload, 1) := by decide +kernel
theorem dX10_nought_52 : decode cX10_nought 52 = .ok (.invokestatic 396, 3) := by decide +kernel
theorem dX10_nought_55 : decode cX10_nought 55 = .ok (.invokevirtual 317, 3) := by decide +kernel
theorem dX10_nought_58 : decode cX10_nought 58 = .ok (.ireturn, 1) := by decide +kernel
theorem dX10_span_0 : decode cX10_span 0 = .ok (.aload_n 0, 1) := by decide +kernel
theorem dX10_span_1 : decode cX10_span 1 = .ok (.iconst 0, 1) := by decide +kernel
theorem dX10_span_2 : decode cX10_span 2 = .ok (.putfield 46, 3) := by decide +kernel
theorem dX10_span_5 : decode cX10_span 5 = .ok (.aload_n 0, 1) := by decide +kernel
theorem dX10_span_6 : decode cX10_span 6 = .ok (.iload_n 1, 1) := by decide +kernel
theorem dX10_span_7 : decode cX10_span 7 = .ok (.iload_n 2, 1) := by decide +kernel
theorem dX10_span_8 : decode cX10_span 8 = .ok (.iload_n 3, 1) := by decide +kernel
theorem dX10_span_9 : decode cX10_span 9 = .ok (.invokevirtual 393, 3) := by decide +kernel
theorem dX10_span_12 : decode cX10_span 12 = .ok (.ifCond .ne 9, 3) := by decide +kernel
theorem dX10_span_15 : decode cX10_span 15 = .ok (.aload_n 0, 1) := by decide +kernel
theorem dX10_span_16 : decode cX10_span 16 = .ok (.iconst 1, 1) := by decide +kernel
theorem dX10_span_17 : decode cX10_span 17 = .ok (.invokevirtual 305, 3) := by decide +kernel
theorem dX10_span_20 : decode cX10_span 20 = .ok (.ireturn, 1) := by decide +kernel
theorem dX10_span_21 : decode cX10_span 21 = .ok (.iload 4, 2) := by decide +kernel
theorem dX10_span_23 : decode cX10_span 23 = .ok (.iconst 0, 1) := by decide +kernel
theorem dX10_span_24 : decode cX10_span 24 = .ok (.bipush 20, 2) := by decide +kernel
theorem dX10_span_26 : decode cX10_span 26 = .ok (.invokestatic 108, 3) := by decide +kernel
theorem dX10_span_29 : decode cX10_span 29 = .ok (.ifCond .ne 9, 3) := by decide +kernel
theorem dX10_span_32 : decode cX10_span 32 = .ok (.aload_n 0, 1) := by decide +kernel
theorem dX10_span_33 : decode cX10_span 33 = .ok (.iconst 2, 1) := by decide +kernel
theorem dX10_span_34 : decode cX10_span 34 = .ok (.invokevirtual 305, 3) := by decide +kernel
theorem dX10_span_37 : decode cX10_span 37 = .ok (.ireturn, 1) := by decide +kernel
theorem dX10_span_38 : decode cX10_span 38 = .ok (.aload_n 0, 1) := by decide +kernel
theorem dX10_span_39 : decode cX10_span 39 = .ok (.iload_n 1, 1) := by decide +kernel
theorem dX10_span_40 : decode cX10_span 40 = .ok (.invokevirtual 359, 3) := by decide +kernel
theorem dX10_span_43 : decode cX10_span 43 = .ok (.bipush 60, 2) := by decide +kernel
theorem dX10_span_45 : decode cX10_span 45 = .ok (.iload_n 2, 1) := by decide +kernel
theorem dX10_span_46 : decode cX10_span 46 = .ok (.imul, 1) := by decide +kernel
theorem dX10_span_47 : decode cX10_span 47 = .ok (.iload_n 3, 1) := by decide +kernel
theorem dX10_span_48 : decode cX10_span 48 = .ok (.iadd, 1) := by decide +kernel
theorem dX10_span_49 : decode cX10_span 49 = .ok (.istore 6, 2) := by decide +kernel
theorem dX10_span_51 : decode cX10_span 51 = .ok (.bipush (-2), 2) := by decide +kernel
theorem dX10_span_53 : decode cX10_span 53 = .ok (.istore 7, 2) := by decide +kernel
theorem dX10_span_55 : decode cX10_span 55 = .ok (.iconst (-1), 1) := by decide +kernel
theorem dX10_span_56 : decode cX10_span 56 = .ok (.istore 8, 2) := by decide +kernel
theorem dX10_span_58 : decode cX10_span 58 = .ok (.iload 8, 2) := by decide +kernel
theorem dX10_span_60 : decode cX10_span 60 = .ok (.iconst 1, 1) := by decide +kernel
theorem dX10_span_61 : decode cX10_span 61 = .ok (.if_icmp .gt 101, 3) := by decide +kernel
theorem dX10_span_64 : decode cX10_span 64 = .ok (.iconst (-1), 1) := by decide +kernel
theorem dX10_span_65 : decode cX10_span 65 = .ok (.istore 9, 2) := by decide +kernel
theorem dX10_span_67 : decode cX10_span 67 = .ok (.iload 9, 2) := by decide +kernel
theorem dX10_span_69 : decode cX10_span 69 = .ok (.iconst 1, 1) := by decide +kernel
theorem dX10_span_70 : decode cX10_span 70 = .ok (.if_icmp .gt 86, 3) := by decide +kernel
theorem dX10_span_73 : decode cX10_span 73 = .ok (.iload_n 3, 1) := by decide +kernel
theorem dX10_span_74 : decode cX10_span 74 = .ok (.aload_n 0, 1) := by decide +kernel
theorem dX10_span_75 : decode cX10_span 75 = .ok (.getfield 21, 3) := by decide +kernel
theorem dX10_span_78 : decode cX10_span 78 = .ok (.iload 6, 2) := by decide +kernel
theorem dX10_span_80 : decode cX10_span 80 = .ok (.iaload, 1) := by decide +kernel
theorem dX10_span_81 : decode cX10_span 81 = .ok (.iload 8, 2) := by decide +kernel
theorem dX10_span_83 : decode cX10_span 83 = .ok (.iload 4, 2) := by decide +kernel
theorem dX10_span_85 : decode cX10_span 85 = .ok (.imul, 1) := by decide +kernel
theorem dX10_span_86 : decode cX10_span 86 = .ok (.iadd, 1) := by decide +kernel
theorem dX10_span_87 : decode cX10_span 87 = .ok (.aload_n 0, 1) := by decide +kernel
theorem dX10_span_88 : decode cX10_span 88 = .ok (.getfield 21, 3) := by decide +kernel
theorem dX10_span_91 : decode cX10_span 91 = .ok (.iload 6, 2) := by decide +kernel
theorem dX10_span_93 : decode cX10_span 93 = .ok (.iconst 1, 1) := by decide +kernel
theorem dX10_span_94 : decode cX10_span 94 = .ok (.iadd, 1) := by decide +kernel
theorem dX10_span_95 : decode cX10_span 95 = .ok (.iaload, 1) := by decide +kernel
theorem dX10_span_96 : decode cX10_span 96 = .ok (.iload 9, 2) := by decide +kernel
theorem dX10_span_98 : decode cX10_span 98 = .ok (.iload 4, 2) := by decide +kernel
theorem dX10_span_100 : decode cX10_span 100 = .ok (.imul, 1) := by decide +kernel
theorem dX10_span_101 : decode cX10_span 101 = .ok (.iadd, 1) := by decide +kernel
theorem dX10_span_102 : decode cX10_span 102 = .ok (.invokestatic 396, 3) := by decide +kernel
theorem dX10_span_105 : decode cX10_span 105 = .ok (.istore 10, 2) := by decide +kernel
theorem dX10_span_107 : decode cX10_span 107 = .ok (.iload 10, 2) := by decide +kernel
theorem dX10_span_109 : decode cX10_span 109 = .ok (.bipush (-2), 2) := by decide +kernel
theorem dX10_span_111 : decode cX10_span 111 = .ok (.if_icmp .ne 6, 3) := by decide +kernel
theorem dX10_span_114 : decode cX10_span 114 = .ok (.goto 36, 3) := by decide +kernel
theorem dX10_span_117 : decode cX10_span 117 = .ok (.iload 7, 2) := by decide +kernel
theorem dX10_span_119 : decode cX10_span 119 = .ok (.bipush (-2), 2) := by decide +kernel
theorem dX10_span_121 : decode cX10_span 121 = .ok (.if_icmp .eq 25, 3) := by decide +kernel
theorem dX10_span_124 : decode cX10_span 124 = .ok (.iload 5, 2) := by decide +kernel
theorem dX10_span_126 : decode cX10_span 126 = .ok (.ifCond .eq 13, 3) := by decide +kernel
theorem dX10_span_129 : decode cX10_span 129 = .ok (.iload 10, 2) := by decide +kernel
theorem dX10_span_131 : decode cX10_span 131 = .ok (.iload 7, 2) := by decide +kernel
theorem dX10_span_133 : decode cX10_span 133 = .ok (.if_icmp .le 17, 3) := by decide +kernel
theorem dX10_span_136 : decode cX10_span 136 = .ok (.goto 10, 3) := by decide +kernel
theorem dX10_span_139 : decode cX10_span 139 = .ok (.iload 10, 2) := by decide +kernel
theorem dX10_span_141 : decode cX10_span 141 = .ok (.iload 7, 2) := by decide +kernel
theorem dX10_span_143 : decode cX10_span 143 = .ok (.if_icmp .ge 7, 3) := by decide +kernel
theorem dX10_span_146 : decode cX10_span 146 = .ok (.iload 10, 2) := by decide +kernel
theorem dX10_span_148 : decode cX10_span 148 = .ok (.istore 7, 2) := by decide +kernel
theorem dX10_span_150 : decode cX10_span 150 = .ok (.iinc 9 1, 3) := by decide +kernel
theorem dX10_span_153 : decode cX10_span 153 = .ok (.goto (-86), 3) := by decide +kernel
theorem dX10_span_156 : decode cX10_span 156 = .ok (.iinc 8 1, 3) := by decide +kernel
theorem dX10_span_159 : decode cX10_span 159 = .ok (.goto (-101), 3) := by decide +kernel
theorem dX10_span_162 : decode cX10_span 162 = .ok (.aload_n 0, 1) := by decide +kernel
theorem dX10_span_163 : decode cX10_span 163 = .ok (.iload 7, 2) := by decide +kernel
theorem dX10_span_165 : decode cX10_span 165 = .ok (.invokevirtual 317, 3) := by decide +kernel
theorem dX10_span_168 : decode cX10_span 168 = .ok (.ireturn, 1) := by decide +kernel
theorem dX10_isHelp_0 : decode cX10_isHelp 0 = .ok (.aload_n 0, 1) := by decide +kernel
theorem dX10_isHelp_1 : decode cX10_isHelp 1 = .ok (.iload_n 2, 1) := by decide +kernel
theorem dX10_isHelp_2 : decode cX10_isHelp 2 = .ok (.iconst (-1), 1) := by decide +kernel
theorem dX10_isHelp_3 : decode cX10_isHelp 3 = .ok (.invokevirtual 326, 3) := by decide +kernel
theorem dX10_isHelp_6 : decode cX10_isHelp 6 = .ok (.aload_n 0, 1) := by decide +kernel
theorem dX10_isHelp_7 : decode cX10_isHelp 7 = .ok (.iload_n 1, 1) := by decide +kernel
theorem dX10_isHelp_8 : decode cX10_isHelp 8 = .ok (.iconst 1, 1) := by decide +kernel
theorem dX10_isHelp_9 : decode cX10_isHelp 9 = .ok (.invokevirtual 349, 3) := by decide +kernel
theorem dX10_isHelp_12 : decode cX10_isHelp 12 = .ok (.aload_n 0, 1) := by decide +kernel
theorem dX10_isHelp_13 : decode cX10_isHelp 13 = .ok (.getfield 338, 3) := by decide +kernel
theorem dX10_isHelp_16 : decode cX10_isHelp 16 = .ok (.bipush (-2), 2) := by decide +kernel
theorem dX10_isHelp_18 : decode cX10_isHelp 18 = .ok (.if_icmp .ne 7, 3) := by decide +kernel
theorem dX10_isHelp_21 : decode cX10_isHelp 21 = .ok (.iconst 1, 1) := by decide +kernel
theorem dX10_isHelp_22 : decode cX10_isHelp 22 = .ok (.goto 4, 3) := by decide +kernel
theorem dX10_isHelp_25 : decode cX10_isHelp 25 = .ok (.iconst 0, 1) := by decide +kernel
theorem dX10_isHelp_26 : decode cX10_isHelp 26 = .ok (.ireturn, 1) := by decide +kernel
theorem dX10_helps_0 : decode cX10_helps 0 = .ok (.aload_n 0, 1) := by decide +kernel
theorem dX10_helps_1 : decode cX10_helps 1 = .ok (.iconst 0, 1) := by decide +kernel
theorem dX10_helps_2 : decode cX10_helps 2 = .ok (.putfield 46, 3) := by decide +kernel
theorem dX10_helps_5 : decode cX10_helps 5 = .ok (.aload_n 0, 1) := by decide +kernel
theorem dX10_helps_6 : decode cX10_helps 6 = .ok (.iload_n 1, 1) := by decide +kernel
theorem dX10_helps_7 : decode cX10_helps 7 = .ok (.invokevirtual 353, 3) := by decide +kernel
theorem dX10_helps_10 : decode cX10_helps 10 = .ok (.ifCond .eq 11, 3) := by decide +kernel
theorem dX10_helps_13 : decode cX10_helps 13 = .ok (.aload_n 0, 1) := by decide +kernel
theorem dX10_helps_14 : decode cX10_helps 14 = .ok (.iload_n 2, 1) := by decide +kernel
theorem dX10_helps_15 : decode cX10_helps 15 = .ok (.invokevirtual 323, 3) := by decide +kernel
theorem dX10_helps_18 : decode cX10_helps 18 = .ok (.ifCond .ne 9, 3) := by decide +kernel
theorem dX10_helps_21 : decode cX10_helps 21 = .ok (.aload_n 0, 1) := by decide +kernel
theorem dX10_helps_22 : decode cX10_helps 22 = .ok (.iconst 1, 1) := by decide +kernel
theorem dX10_helps_23 : decode cX10_helps 23 = .ok (.invokevirtual 305, 3) := by decide +kernel
theorem dX10_helps_26 : decode cX10_helps 26 = .ok (.ireturn, 1) := by decide +kernel
theorem dX10_helps_27 : decode cX10_helps 27 = .ok (.aload_n 0, 1) := by decide +kernel
theorem dX10_helps_28 : decode cX10_helps 28 = .ok (.aload_n 0, 1) := by decide +kernel
theorem dX10_helps_29 : decode cX10_helps 29 = .ok (.iload_n 1, 1) := by decide +kernel
theorem dX10_helps_30 : decode cX10_helps 30 = .ok (.iload_n 2, 1) := by decide +kernel
theorem dX10_helps_31 : decode cX10_helps 31 = .ok (.invokevirtual 400, 3) := by decide +kernel
theorem dX10_helps_34 : decode cX10_helps 34 = .ok (.ifCond .eq 7, 3) := by decide +kernel
theorem dX10_helps_37 : decode cX10_helps 37 = .ok (.iconst 1, 1) := by decide +kernel
theorem dX10_helps_38 : decode cX10_helps 38 = .ok (.goto 4, 3) := by decide +kernel
theorem dX10_helps_41 : decode cX10_helps 41 = .ok (.iconst 0, 1) := by decide +kernel
theorem dX10_helps_42 : decode cX10_helps 42 = .ok (.invokevirtual 317, 3) := by decide +kernel
theorem dX10_helps_45 : decode cX10_helps 45 = .ok (.ireturn, 1) := by decide +kernel
theorem dX10_last_0 : decode cX10_last 0 = .ok (.aload_n 0, 1) := by decide +kernel
theorem dX10_last_1 : decode cX10_last 1 = .ok (.iconst 0, 1) := by decide +kernel
theorem dX10_last_2 : decode cX10_last 2 = .ok (.putfield 46, 3) := by decide +kernel
theorem dX10_last_5 : decode cX10_last 5 = .ok (.aload_n 0, 1) := by decide +kernel
theorem dX10_last_6 : decode cX10_last 6 = .ok (.iload_n 1, 1) := by decide +kernel
theorem dX10_last_7 : decode cX10_last 7 = .ok (.invokevirtual 353, 3) := by decide +kernel
theorem dX10_last_10 : decode cX10_last 10 = .ok (.ifCond .ne 9, 3) := by decide +kernel
theorem dX10_last_13 : decode cX10_last 13 = .ok (.aload_n 0, 1) := by decide +kernel
theorem dX10_last_14 : decode cX10_last 14 = .ok (.iconst 1, 1) := by decide +kernel
theorem dX10_last_15 : decode cX10_last 15 = .ok (.invokevirtual 305, 3) := by decide +kernel
theorem dX10_last_18 : decode cX10_last 18 = .ok (.ireturn, 1) := by decide +kernel
theorem dX10_last_19 : decode cX10_last 19 = .ok (.bipush 59, 2) := by decide +kernel
theorem dX10_last_21 : decode cX10_last 21 = .ok (.istore_n 2, 1) := by decide +kernel
theorem dX10_last_22 : decode cX10_last 22 = .ok (.iload_n 2, 1) := by decide +kernel
theorem dX10_last_23 : decode cX10_last 23 = .ok (.ifCond .lt 24, 3) := by decide +kernel
theorem dX10_last_26 : decode cX10_last 26 = .ok (.aload_n 0, 1) := by decide +kernel
theorem dX10_last_27 : decode cX10_last 27 = .ok (.iload_n 1, 1) := by decide +kernel
theorem dX10_last_28 : decode cX10_last 28 = .ok (.iload_n 2, 1) := by decide +kernel
theorem dX10_last_29 : decode cX10_last 29 = .ok (.invokevirtual 400, 3) := by decide +kernel
theorem dX10_last_32 : decode cX10_last 32 = .ok (.ifCond .eq 9, 3) := by decide +kernel
theorem dX10_last_35 : decode cX10_last 35 = .ok (.aload_n 0, 1) := by decide +kernel
theorem dX10_last_36 : decode cX10_last 36 = .ok (.iload_n 2, 1) := by decide +kernel
theorem dX10_last_37 : decode cX10_last 37 = .ok (.invokevirtual 317, 3) := by decide +kernel
theorem dX10_last_40 : decode cX10_last 40 = .ok (.ireturn, 1) := by decide +kernel
theorem dX10_last_41 : decode cX10_last 41 = .ok (.iinc 2 (-1), 3) := by decide +kernel
theorem dX10_last_44 : decode cX10_last 44 = .ok (.goto (-22), 3) := by decide +kernel
theorem dX10_last_47 : decode cX10_last 47 = .ok (.aload_n 0, 1) := by decide +kernel
theorem dX10_last_48 : decode cX10_last 48 = .ok (.bipush (-2), 2) := by decide +kernel
theorem dX10_last_50 : decode cX10_last 50 = .ok (.invokevirtual 317, 3) := by decide +kernel
theorem dX10_last_53 : decode cX10_last 53 = .ok (.ireturn, 1) := by decide +kernel
theorem dX10_safe_0 : decode cX10_safe 0 = .ok (.aload_n 0, 1) := by decide +kernel
theorem dX10_safe_1 : decode cX10_safe 1 = .ok (.iconst 0, 1) := by decide +kernel
theorem dX10_safe_2 : decode cX10_safe 2 = .ok (.putfield 46, 3) := by decide +kernel
theorem dX10_safe_5 : decode cX10_safe 5 = .ok (.aload_n 0, 1) := by decide +kernel
theorem dX10_safe_6 : decode cX10_safe 6 = .ok (.iload_n 1, 1) := by decide +kernel
theorem dX10_safe_7 : decode cX10_safe 7 = .ok (.invokevirtual 353, 3) := by decide +kernel
theorem dX10_safe_10 : decode cX10_safe 10 = .ok (.ifCond .ne 9, 3) := by decide +kernel
theorem dX10_safe_13 : decode cX10_safe 13 = .ok (.aload_n 0, 1) := by decide +kernel
theorem dX10_safe_14 : decode cX10_safe 14 = .ok (.iconst 1, 1) := by decide +kernel
theorem dX10_safe_15 : decode cX10_safe 15 = .ok (.invokevirtual 305, 3) := by decide +kernel
theorem dX10_safe_18 : decode cX10_safe 18 = .ok (.ireturn, 1) := by decide +kernel
theorem dX10_safe_19 : decode cX10_safe 19 = .ok (.aload_n 0, 1) := by decide +kernel
theorem dX10_safe_20 : decode cX10_safe 20 = .ok (.getfield 312, 3) := by decide +kernel
theorem dX10_safe_23 : decode cX10_safe 23 = .ok (.getfield 207, 3) := by decide +kernel
theorem dX10_safe_26 : decode cX10_safe 26 = .ok (.istore_n 2, 1) := by decide +kernel
theorem dX10_safe_27 : decode cX10_safe 27 = .ok (.iload_n 2, 1) := by decide +kernel
theorem dX10_safe_28 : decode cX10_safe 28 = .ok (.ifCond .lt 37, 3) := by decide +kernel
theorem dX10_safe_31 : decode cX10_safe 31 = .ok (.aload_n 0, 1) := by decide +kernel
theorem dX10_safe_32 : decode cX10_safe 32 = .ok (.bipush 60, 2) := by decide +kernel
theorem dX10_safe_34 : decode cX10_safe 34 = .ok (.iload_n 2, 1) := by decide +kernel
theorem dX10_safe_35 : decode cX10_safe 35 = .ok (.invokevirtual 326, 3) := by decide +kernel
theorem dX10_safe_38 : decode cX10_safe 38 = .ok (.aload_n 0, 1) := by decide +kernel
theorem dX10_safe_39 : decode cX10_safe 39 = .ok (.iload_n 1, 1) := by decide +kernel
theorem dX10_safe_40 : decode cX10_safe 40 = .ok (.iconst 1, 1) := by decide +kernel
theorem dX10_safe_41 : decode cX10_safe 41 = .ok (.invokevirtual 349, 3) := by decide +kernel
theorem dX10_safe_44 : decode cX10_safe 44 = .ok (.aload_n 0, 1) := by decide +kernel
theorem dX10_safe_45 : decode cX10_safe 45 = .ok (.getfield 338, 3) := by decide +kernel
theorem dX10_safe_48 : decode cX10_safe 48 = .ok (.bipush (-2), 2) := by decide +kernel
theorem dX10_safe_50 : decode cX10_safe 50 = .ok (.if_icmp .ne 9, 3) := by decide +kernel
theorem dX10_safe_53 : decode cX10_safe 53 = .ok (.aload_n 0, 1) := by decide +kernel
theorem dX10_safe_54 : decode cX10_safe 54 = .ok (.iload_n 2, 1) := by decide +kernel
theorem dX10_safe_55 : decode cX10_safe 55 = .ok (.invokevirtual 317, 3) := by decide +kernel
theorem dX10_safe_58 : decode cX10_safe 58 = .ok (.ireturn, 1) := by decide +kernel
theorem dX10_safe_59 : decode cX10_safe 59 = .ok (.iinc 2 (-1), 3) := by decide +kernel
theorem dX10_safe_62 : decode cX10_safe 62 = .ok (.goto (-35), 3) := by decide +kernel
theorem dX10_safe_65 : decode cX10_safe 65 = .ok (.aload_n 0, 1) := by decide +kernel
theorem dX10_safe_66 : decode cX10_safe 66 = .ok (.bipush (-2), 2) := by decide +kernel
theorem dX10_safe_68 : decode cX10_safe 68 = .ok (.invokevirtual 317, 3) := by decide +kernel
theorem dX10_safe_71 : decode cX10_safe 71 = .ok (.ireturn, 1) := by decide +kernel
theorem dX10_foundBy_0 : decode cX10_foundBy 0 = .ok (.aload_n 0, 1) := by decide +kernel
theorem dX10_foundBy_1 : decode cX10_foundBy 1 = .ok (.getfield 312, 3) := by decide +kernel
theorem dX10_foundBy_4 : decode cX10_foundBy 4 = .ok (.getfield 268, 3) := by decide +kernel
theorem dX10_foundBy_7 : decode cX10_foundBy 7 = .ok (.iload_n 1, 1) := by decide +kernel
theorem dX10_foundBy_8 : decode cX10_foundBy 8 = .ok (.iaload, 1) := by decide +kernel
theorem dX10_foundBy_9 : decode cX10_foundBy 9 = .ok (.istore_n 3, 1) := by decide +kernel
theorem dX10_foundBy_10 : decode cX10_foundBy 10 = .ok (.aload_n 0, 1) := by decide +kernel
theorem dX10_foundBy_11 : decode cX10_foundBy 11 = .ok (.getfield 312, 3) := by decide +kernel
theorem dX10_foundBy_14 : decode cX10_foundBy 14 = .ok (.getfield 265, 3) := by decide +kernel
theorem dX10_foundBy_17 : decode cX10_foundBy 17 = .ok (.iload_n 1, 1) := by decide +kernel
theorem dX10_foundBy_18 : decode cX10_foundBy 18 = .ok (.iaload, 1) := by decide +kernel
theorem dX10_foundBy_19 : decode cX10_foundBy 19 = .ok (.tableswitch 73 1 5 #[33, 44, 51, 73, 62], 33) := by decide +kernel
theorem dX10_foundBy_52 : decode cX10_foundBy 52 = .ok (.iload_n 2, 1) := by decide +kernel
theorem dX10_foundBy_53 : decode cX10_foundBy 53 = .ok (.iload_n 3, 1) := by decide +kernel
theorem dX10_foundBy_54 : decode cX10_foundBy 54 = .ok (.if_icmp .gt 7, 3) := by decide +kernel
theorem dX10_foundBy_57 : decode cX10_foundBy 57 = .ok (.iconst 1, 1) := by decide +kernel
theorem dX10_foundBy_58 : decode cX10_foundBy 58 = .ok (.goto 4, 3) := by decide +kernel
theorem dX10_foundBy_61 : decode cX10_foundBy 61 = .ok (.iconst 0, 1) := by decide +kernel
theorem dX10_foundBy_62 : decode cX10_foundBy 62 = .ok (.ireturn, 1) := by decide +kernel
theorem dX10_foundBy_63 : decode cX10_foundBy 63 = .ok (.iload_n 3, 1) := by decide +kernel
theorem dX10_foundBy_64 : decode cX10_foundBy 64 = .ok (.iload_n 2, 1) := by decide +kernel
theorem dX10_foundBy_65 : decode cX10_foundBy 65 = .ok (.imul, 1) := by decide +kernel
theorem dX10_foundBy_66 : decode cX10_foundBy 66 = .ok (.bipush 10, 2) := by decide +kernel
theorem dX10_foundBy_68 : decode cX10_foundBy 68 = .ok (.idiv, 1) := by decide +kernel
theorem dX10_foundBy_69 : decode cX10_foundBy 69 = .ok (.ireturn, 1) := by decide +kernel
theorem dX10_foundBy_70 : decode cX10_foundBy 70 = .ok (.iload_n 2, 1) := by decide +kernel
theorem dX10_foundBy_71 : decode cX10_foundBy 71 = .ok (.iload_n 3, 1) := by decide +kernel
theorem dX10_foundBy_72 : decode cX10_foundBy 72 = .ok (.if_icmp .ne 7, 3) := by decide +kernel
theorem dX10_foundBy_75 : decode cX10_foundBy 75 = .ok (.iconst 2, 1) := by decide +kernel
theorem dX10_foundBy_76 : decode cX10_foundBy 76 = .ok (.goto 4, 3) := by decide +kernel
theorem dX10_foundBy_79 : decode cX10_foundBy 79 = .ok (.iconst 0, 1) := by decide +kernel
theorem dX10_foundBy_80 : decode cX10_foundBy 80 = .ok (.ireturn, 1) := by decide +kernel
theorem dX10_foundBy_81 : decode cX10_foundBy 81 = .ok (.iload_n 2, 1) := by decide +kernel
theorem dX10_foundBy_82 : decode cX10_foundBy 82 = .ok (.iconst 5, 1) := by decide +kernel
theorem dX10_foundBy_83 : decode cX10_foundBy 83 = .ok (.if_icmp .gt 7, 3) := by decide +kernel
theorem dX10_foundBy_86 : decode cX10_foundBy 86 = .ok (.iconst 1, 1) := by decide +kernel
theorem dX10_foundBy_87 : decode cX10_foundBy 87 = .ok (.goto 4, 3) := by decide +kernel
theorem dX10_foundBy_90 : decode cX10_foundBy 90 = .ok (.iconst 0, 1) := by decide +kernel
theorem dX10_foundBy_91 : decode cX10_foundBy 91 = .ok (.ireturn, 1) := by decide +kernel
theorem dX10_foundBy_92 : decode cX10_foundBy 92 = .ok (.iconst 0, 1) := by decide +kernel
theorem dX10_foundBy_93 : decode cX10_foundBy 93 = .ok (.ireturn, 1) := by decide +kernel
theorem dX10_found_0 : decode cX10_found 0 = .ok (.aload_n 0, 1) := by decide +kernel
theorem dX10_found_1 : decode cX10_found 1 = .ok (.iconst 0, 1) := by decide +kernel
theorem dX10_found_2 : decode cX10_found 2 = .ok (.putfield 46, 3) := by decide +kernel
theorem dX10_found_5 : decode cX10_found 5 = .ok (.aload_n 0, 1) := by decide +kernel
theorem dX10_found_6 : decode cX10_found 6 = .ok (.iload_n 1, 1) := by decide +kernel
theorem dX10_found_7 : decode cX10_found 7 = .ok (.invokevirtual 353, 3) := by decide +kernel
theorem dX10_found_10 : decode cX10_found 10 = .ok (.ifCond .ne 9, 3) := by decide +kernel
theorem dX10_found_13 : decode cX10_found 13 = .ok (.aload_n 0, 1) := by decide +kernel
theorem dX10_found_14 : decode cX10_found 14 = .ok (.iconst 1, 1) := by decide +kernel
theorem dX10_found_15 : decode cX10_found 15 = .ok (.invokevirtual 305, 3) := by decide +kernel
theorem dX10_found_18 : decode cX10_found 18 = .ok (.ireturn, 1) := by decide +kernel
theorem dX10_found_19 : decode cX10_found 19 = .ok (.iload_n 2, 1) := by decide +kernel
theorem dX10_found_20 : decode cX10_found 20 = .ok (.iconst 0, 1) := by decide +kernel
theorem dX10_found_21 : decode cX10_found 21 = .ok (.bipush 99, 2) := by decide +kernel
theorem dX10_found_23 : decode cX10_found 23 = .ok (.invokestatic 108, 3) := by decide +kernel
theorem dX10_found_26 : decode cX10_found 26 = .ok (.ifCond .eq 16, 3) := by decide +kernel
theorem dX10_found_29 : decode cX10_found 29 = .ok (.aload_n 0, 1) := by decide +kernel
theorem dX10_found_30 : decode cX10_found 30 = .ok (.aload_n 0, 1) := by decide +kernel
theorem dX10_found_31 : decode cX10_found 31 = .ok (.iload_n 1, 1) := by decide +kernel
theorem dX10_found_32 : decode cX10_found 32 = .ok (.iload_n 2, 1) := by decide +kernel
theorem dX10_found_33 : decode cX10_found 33 = .ok (.invokevirtual 403, 3) := by decide +kernel
theorem dX10_found_36 : decode cX10_found 36 = .ok (.invokevirtual 317, 3) := by decide +kernel
theorem dX10_found_39 : decode cX10_found 39 = .ok (.goto 8, 3) := by decide +kernel
theorem dX10_found_42 : decode cX10_found 42 = .ok (.aload_n 0, 1) := by decide +kernel
theorem dX10_found_43 : decode cX10_found 43 = .ok (.iconst 2, 1) := by decide +kernel
theorem dX10_found_44 : decode cX10_found 44 = .ok (.invokevirtual 305, 3) := by decide +kernel
theorem dX10_found_47 : decode cX10_found 47 = .ok (.ireturn, 1) := by decide +kernel
theorem dX10_alikeAt_0 : decode cX10_alikeAt 0 = .ok (.iconst 0, 1) := by decide +kernel
theorem dX10_alikeAt_1 : decode cX10_alikeAt 1 = .ok (.istore_n 2, 1) := by decide +kernel
theorem dX10_alikeAt_2 : decode cX10_alikeAt 2 = .ok (.iconst 0, 1) := by decide +kernel
theorem dX10_alikeAt_3 : decode cX10_alikeAt 3 = .ok (.istore_n 3, 1) := by decide +kernel
theorem dX10_alikeAt_4 : decode cX10_alikeAt 4 = .ok (.iload_n 3, 1) := by decide +kernel
theorem dX10_alikeAt_5 : decode cX10_alikeAt 5 = .ok (.aload_n 0, 1) := by decide +kernel
theorem dX10_alikeAt_6 : decode cX10_alikeAt 6 = .ok (.getfield 312, 3) := by decide +kernel
theorem dX10_alikeAt_9 : decode cX10_alikeAt 9 = .ok (.getfield 173, 3) := by decide +kernel
theorem dX10_alikeAt_12 : decode cX10_alikeAt 12 = .ok (.if_icmp .ge 100, 3) := by decide +kernel
theorem dX10_alikeAt_15 : decode cX10_alikeAt 15 = .ok (.iconst 0, 1) := by decide +kernel
theorem dX10_alikeAt_16 : decode cX10_alikeAt 16 = .ok (.istore 4, 2) := by decide +kernel
theorem dX10_alikeAt_18 : decode cX10_alikeAt 18 = .ok (.iconst 0, 1) := by decide +kernel
theorem dX10_alikeAt_19 : decode cX10_alikeAt 19 = .ok (.istore 5, 2) := by decide +kernel
theorem dX10_alikeAt_21 : decode cX10_alikeAt 21 = .ok (.iload 5, 2) := by decide +kernel
theorem dX10_alikeAt_23 : decode cX10_alikeAt 23 = .ok (.aload_n 0, 1) := by decide +kernel
theorem dX10_alikeAt_24 : decode cX10_alikeAt 24 = .ok (.getfield 312, 3) := by decide +kernel
theorem dX10_alikeAt_27 : decode cX10_alikeAt 27 = .ok (.getfield 173, 3) := by decide +kernel
theorem dX10_alikeAt_30 : decode cX10_alikeAt 30 = .ok (.if_icmp .ge 63, 3) := by decide +kernel
theorem dX10_alikeAt_33 : decode cX10_alikeAt 33 = .ok (.iload 4, 2) := by decide +kernel
theorem dX10_alikeAt_35 : decode cX10_alikeAt 35 = .ok (.aload_n 0, 1) := by decide +kernel
theorem dX10_alikeAt_36 : decode cX10_alikeAt 36 = .ok (.getfield 42, 3) := by decide +kernel
theorem dX10_alikeAt_39 : decode cX10_alikeAt 39 = .ok (.iload_n 3, 1) := by decide +kernel
theorem dX10_alikeAt_40 : decode cX10_alikeAt 40 = .ok (.baload, 1) := by decide +kernel
theorem dX10_alikeAt_41 : decode cX10_alikeAt 41 = .ok (.ifCond .eq 42, 3) := by decide +kernel
theorem dX10_alikeAt_44 : decode cX10_alikeAt 44 = .ok (.aload_n 0, 1) := by decide +kernel
theorem dX10_alikeAt_45 : decode cX10_alikeAt 45 = .ok (.getfield 42, 3) := by decide +kernel
theorem dX10_alikeAt_48 : decode cX10_alikeAt 48 = .ok (.iload 5, 2) := by decide +kernel
theorem dX10_alikeAt_50 : decode cX10_alikeAt 50 = .ok (.baload, 1) := by decide +kernel
theorem dX10_alikeAt_51 : decode cX10_alikeAt 51 = .ok (.ifCond .eq 32, 3) := by decide +kernel
theorem dX10_alikeAt_54 : decode cX10_alikeAt 54 = .ok (.aload_n 0, 1) := by decide +kernel
theorem dX10_alikeAt_55 : decode cX10_alikeAt 55 = .ok (.iload_n 3, 1) := by decide +kernel
theorem dX10_alikeAt_56 : decode cX10_alikeAt 56 = .ok (.iload_n 1, 1) := by decide +kernel
theorem dX10_alikeAt_57 : decode cX10_alikeAt 57 = .ok (.invokevirtual 403, 3) := by decide +kernel
theorem dX10_alikeAt_60 : decode cX10_alikeAt 60 = .ok (.aload_n 0, 1) := by decide +kernel
theorem dX10_alikeAt_61 : decode cX10_alikeAt 61 = .ok (.iload 5, 2) := by decide +kernel
theorem dX10_alikeAt_63 : decode cX10_alikeAt 63 = .ok (.iload_n 1, 1) := by decide +kernel
theorem dX10_alikeAt_64 : decode cX10_alikeAt 64 = .ok (.invokevirtual 403, 3) := by decide +kernel
theorem dX10_alikeAt_67 : decode cX10_alikeAt 67 = .ok (.if_icmp .ne 16, 3) := by decide +kernel
theorem dX10_alikeAt_70 : decode cX10_alikeAt 70 = .ok (.aload_n 0, 1) := by decide +kernel
theorem dX10_alikeAt_71 : decode cX10_alikeAt 71 = .ok (.getfield 312, 3) := by decide +kernel
theorem dX10_alikeAt_74 : decode cX10_alikeAt 74 = .ok (.getfield 263, 3) := by decide +kernel
theorem dX10_alikeAt_77 : decode cX10_alikeAt 77 = .ok (.iload 5, 2) := by decide +kernel
theorem dX10_alikeAt_79 : decode cX10_alikeAt 79 = .ok (.iaload, 1) := by decide +kernel
theorem dX10_alikeAt_80 : decode cX10_alikeAt 80 = .ok (.goto 4, 3) := by decide +kernel
theorem dX10_alikeAt_83 : decode cX10_alikeAt 83 = .ok (.iconst 0, 1) := by decide +kernel
theorem dX10_alikeAt_84 : decode cX10_alikeAt 84 = .ok (.iadd, 1) := by decide +kernel
theorem dX10_alikeAt_85 : decode cX10_alikeAt 85 = .ok (.istore 4, 2) := by decide +kernel
theorem dX10_alikeAt_87 : decode cX10_alikeAt 87 = .ok (.iinc 5 1, 3) := by decide +kernel
theorem dX10_alikeAt_90 : decode cX10_alikeAt 90 = .ok (.goto (-69), 3) := by decide +kernel
theorem dX10_alikeAt_93 : decode cX10_alikeAt 93 = .ok (.iload 4, 2) := by decide +kernel
theorem dX10_alikeAt_95 : decode cX10_alikeAt 95 = .ok (.iload_n 2, 1) := by decide +kernel
theorem dX10_alikeAt_96 : decode cX10_alikeAt 96 = .ok (.if_icmp .le 8, 3) := by decide +kernel
theorem dX10_alikeAt_99 : decode cX10_alikeAt 99 = .ok (.iload 4, 2) := by decide +kernel
theorem dX10_alikeAt_101 : decode cX10_alikeAt 101 = .ok (.goto 4, 3) := by decide +kernel
theorem dX10_alikeAt_104 : decode cX10_alikeAt 104 = .ok (.iload_n 2, 1) := by decide +kernel
theorem dX10_alikeAt_105 : decode cX10_alikeAt 105 = .ok (.istore_n 2, 1) := by decide +kernel
theorem dX10_alikeAt_106 : decode cX10_alikeAt 106 = .ok (.iinc 3 1, 3) := by decide +kernel
theorem dX10_alikeAt_109 : decode cX10_alikeAt 109 = .ok (.goto (-105), 3) := by decide +kernel
theorem dX10_alikeAt_112 : decode cX10_alikeAt 112 = .ok (.iload_n 2, 1) := by decide +kernel
theorem dX10_alikeAt_113 : decode cX10_alikeAt 113 = .ok (.ireturn, 1) := by decide +kernel
theorem dX10_bore_0 : decode cX10_bore 0 = .ok (.aload_n 0, 1) := by decide +kernel
theorem dX10_bore_1 : decode cX10_bore 1 = .ok (.iconst 0, 1) := by decide +kernel
theorem dX10_bore_2 : decode cX10_bore 2 = .ok (.putfield 46, 3) := by decide +kernel
theorem dX10_bore_5 : decode cX10_bore 5 = .ok (.aload_n 0, 1) := by decide +kernel
theorem dX10_bore_6 : decode cX10_bore 6 = .ok (.getfield 312, 3) := by decide +kernel
theorem dX10_bore_9 : decode cX10_bore 9 = .ok (.ifnonnull 9, 3) := by decide +kernel
theorem dX10_bore_12 : decode cX10_bore 12 = .ok (.aload_n 0, 1) := by decide +kernel
theorem dX10_bore_13 : decode cX10_bore 13 = .ok (.iconst 1, 1) := by decide +kernel
theorem dX10_bore_14 : decode cX10_bore 14 = .ok (.invokevirtual 305, 3) := by decide +kernel
theorem dX10_bore_17 : decode cX10_bore 17 = .ok (.ireturn, 1) := by decide +kernel
theorem dX10_bore_18 : decode cX10_bore 18 = .ok (.aload_n 0, 1) := by decide +kernel
theorem dX10_bore_19 : decode cX10_bore 19 = .ok (.invokevirtual 376, 3) := by decide +kernel
theorem dX10_bore_22 : decode cX10_bore 22 = .ok (.ifCond .ne 10, 3) := by decide +kernel
theorem dX10_bore_25 : decode cX10_bore 25 = .ok (.aload_n 0, 1) := by decide +kernel
theorem dX10_bore_26 : decode cX10_bore 26 = .ok (.bipush 6, 2) := by decide +kernel
theorem dX10_bore_28 : decode cX10_bore 28 = .ok (.invokevirtual 305, 3) := by decide +kernel
theorem dX10_bore_31 : decode cX10_bore 31 = .ok (.ireturn, 1) := by decide +kernel
theorem dX10_bore_32 : decode cX10_bore 32 = .ok (.iconst 0, 1) := by decide +kernel
theorem dX10_bore_33 : decode cX10_bore 33 = .ok (.istore_n 1, 1) := by decide +kernel
theorem dX10_bore_34 : decode cX10_bore 34 = .ok (.iconst 1, 1) := by decide +kernel
theorem dX10_bore_35 : decode cX10_bore 35 = .ok (.istore_n 2, 1) := by decide +kernel
theorem dX10_bore_36 : decode cX10_bore 36 = .ok (.iload_n 2, 1) := by decide +kernel
theorem dX10_bore_37 : decode cX10_bore 37 = .ok (.bipush 100, 2) := by decide +kernel
theorem dX10_bore_39 : decode cX10_bore 39 = .ok (.if_icmp .ge 24, 3) := by decide +kernel
theorem dX10_bore_42 : decode cX10_bore 42 = .ok (.aload_n 0, 1) := by decide +kernel
theorem dX10_bore_43 : decode cX10_bore 43 = .ok (.iload_n 2, 1) := by decide +kernel
theorem dX10_bore_44 : decode cX10_bore 44 = .ok (.invokevirtual 406, 3) := by decide +kernel
theorem dX10_bore_47 : decode cX10_bore 47 = .ok (.aload_n 0, 1) := by decide +kernel
theorem dX10_bore_48 : decode cX10_bore 48 = .ok (.iload_n 1, 1) := by decide +kernel
theorem dX10_bore_49 : decode cX10_bore 49 = .ok (.invokevirtual 406, 3) := by decide +kernel
theorem dX10_bore_52 : decode cX10_bore 52 = .ok (.if_icmp .ge 5, 3) := by decide +kernel
theorem dX10_bore_55 : decode cX10_bore 55 = .ok (.iload_n 2, 1) := by decide +kernel
theorem dX10_bore_56 : decode cX10_bore 56 = .ok (.istore_n 1, 1) := by decide +kernel
theorem dX10_bore_57 : decode cX10_bore 57 = .ok (.iinc 2 1, 3) := by decide +kernel
theorem dX10_bore_60 : decode cX10_bore 60 = .ok (.goto (-24), 3) := by decide +kernel
theorem dX10_bore_63 : decode cX10_bore 63 = .ok (.aload_n 0, 1) := by decide +kernel
theorem dX10_bore_64 : decode cX10_bore 64 = .ok (.iload_n 1, 1) := by decide +kernel
theorem dX10_bore_65 : decode cX10_bore 65 = .ok (.invokevirtual 317, 3) := by decide +kernel
theorem dX10_bore_68 : decode cX10_bore 68 = .ok (.ireturn, 1) := by decide +kernel
theorem dX10_isStruck_0 : decode cX10_isStruck 0 = .ok (.aload_n 0, 1) := by decide +kernel
theorem dX10_isStruck_1 : decode cX10_isStruck 1 = .ok (.getfield 338, 3) := by decide +kernel
theorem dX10_isStruck_4 : decode cX10_isStruck 4 = .ok (.bipush (-2), 2) := by decide +kernel
theorem dX10_isStruck_6 : decode cX10_isStruck 6 = .ok (.if_icmp .eq 23, 3) := by decide +kernel
theorem dX10_isStruck_9 : decode cX10_isStruck 9 = .ok (.aload_n 0, 1) := by decide +kernel
theorem dX10_isStruck_10 : decode cX10_isStruck 10 = .ok (.getfield 312, 3) := by decide +kernel
theorem dX10_isStruck_13 : decode cX10_isStruck 13 = .ok (.getfield 283, 3) := by decide +kernel
theorem dX10_isStruck_16 : decode cX10_isStruck 16 = .ok (.iload_n 1, 1) := by decide +kernel
theorem dX10_isStruck_17 : decode cX10_isStruck 17 = .ok (.iaload, 1) := by decide +kernel
theorem dX10_isStruck_18 : decode cX10_isStruck 18 = .ok (.aload_n 0, 1) := by decide +kernel
theorem dX10_isStruck_19 : decode cX10_isStruck 19 = .ok (.invokevirtual 365, 3) := by decide +kernel
theorem dX10_isStruck_22 : decode cX10_isStruck 22 = .ok (.if_icmp .gt 7, 3) := by decide +kernel
theorem dX10_isStruck_25 : decode cX10_isStruck 25 = .ok (.iconst 1, 1) := by decide +kernel
theorem dX10_isStruck_26 : decode cX10_isStruck 26 = .ok (.goto 4, 3) := by decide +kernel
theorem dX10_isStruck_29 : decode cX10_isStruck 29 = .ok (.iconst 0, 1) := by decide +kernel
theorem dX10_isStruck_30 : decode cX10_isStruck 30 = .ok (.ireturn, 1) := by decide +kernel
theorem dX10_struck_0 : decode cX10_struck 0 = .ok (.aload_n 0, 1) := by decide +kernel
theorem dX10_struck_1 : decode cX10_struck 1 = .ok (.iconst 0, 1) := by decide +kernel
theorem dX10_struck_2 : decode cX10_struck 2 = .ok (.putfield 46, 3) := by decide +kernel
theorem dX10_struck_5 : decode cX10_struck 5 = .ok (.aload_n 0, 1) := by decide +kernel
theorem dX10_struck_6 : decode cX10_struck 6 = .ok (.iload_n 1, 1) := by decide +kernel
theorem dX10_struck_7 : decode cX10_struck 7 = .ok (.invokevirtual 353, 3) := by decide +kernel
theorem dX10_struck_10 : decode cX10_struck 10 = .ok (.ifCond .eq 11, 3) := by decide +kernel
theorem dX10_struck_13 : decode cX10_struck 13 = .ok (.aload_n 0, 1) := by decide +kernel
theorem dX10_struck_14 : decode cX10_struck 14 = .ok (.iload_n 2, 1) := by decide +kernel
theorem dX10_struck_15 : decode cX10_struck 15 = .ok (.invokevirtual 409, 3) := by decide +kernel
theorem dX10_struck_18 : decode cX10_struck 18 = .ok (.ifCond .ne 9, 3) := by decide +kernel
theorem dX10_struck_21 : decode cX10_struck 21 = .ok (.aload_n 0, 1) := by decide +kernel
theorem dX10_struck_22 : decode cX10_struck 22 = .ok (.iconst 1, 1) := by decide +kernel
theorem dX10_struck_23 : decode cX10_struck 23 = .ok (.invokevirtual 305, 3) := by decide +kernel
theorem dX10_struck_26 : decode cX10_struck 26 = .ok (.ireturn, 1) := by decide +kernel
theorem dX10_struck_27 : decode cX10_struck 27 = .ok (.aload_n 0, 1) := by decide +kernel
theorem dX10_struck_28 : decode cX10_struck 28 = .ok (.iload_n 1, 1) := by decide +kernel
theorem dX10_struck_29 : decode cX10_struck 29 = .ok (.invokevirtual 359, 3) := by decide +kernel
theorem dX10_struck_32 : decode cX10_struck 32 = .ok (.aload_n 0, 1) := by decide +kernel
theorem dX10_struck_33 : decode cX10_struck 33 = .ok (.aload_n 0, 1) := by decide +kernel
theorem dX10_struck_34 : decode cX10_struck 34 = .ok (.iload_n 2, 1) := by decide +kernel
theorem dX10_struck_35 : decode cX10_struck 35 = .ok (.invokevirtual 412, 3) := by decide +kernel
theorem dX10_struck_38 : decode cX10_struck 38 = .ok (.ifCond .eq 7, 3) := by decide +kernel
theorem dX10_struck_41 : decode cX10_struck 41 = .ok (.iconst 1, 1) := by decide +kernel
theorem dX10_struck_42 : decode cX10_struck 42 = .ok (.goto 4, 3) := by decide +kernel
theorem dX10_struck_45 : decode cX10_struck 45 = .ok (.iconst 0, 1) := by decide +kernel
theorem dX10_struck_46 : decode cX10_struck 46 = .ok (.invokevirtual 317, 3) := by decide +kernel
theorem dX10_struck_49 : decode cX10_struck 49 = .ok (.ireturn, 1) := by decide +kernel
theorem dX10_dead_0 : decode cX10_dead 0 = .ok (.aload_n 0, 1) := by decide +kernel
theorem dX10_dead_1 : decode cX10_dead 1 = .ok (.iconst 0, 1) := by decide +kernel
theorem dX10_dead_2 : decode cX10_dead 2 = .ok (.putfield 46, 3) := by decide +kernel
theorem dX10_dead_5 : decode cX10_dead 5 = .ok (.aload_n 0, 1) := by decide +kernel
theorem dX10_dead_6 : decode cX10_dead 6 = .ok (.iload_n 1, 1) := by decide +kernel
theorem dX10_dead_7 : decode cX10_dead 7 = .ok (.invokevirtual 353, 3) := by decide +kernel
theorem dX10_dead_10 : decode cX10_dead 10 = .ok (.ifCond .eq 11, 3) := by decide +kernel
theorem dX10_dead_13 : decode cX10_dead 13 = .ok (.aload_n 0, 1) := by decide +kernel
theorem dX10_dead_14 : decode cX10_dead 14 = .ok (.iload_n 2, 1) := by decide +kernel
theorem dX10_dead_15 : decode cX10_dead 15 = .ok (.invokevirtual 323, 3) := by decide +kernel
theorem dX10_dead_18 : decode cX10_dead 18 = .ok (.ifCond .ne 9, 3) := by decide +kernel
theorem dX10_dead_21 : decode cX10_dead 21 = .ok (.aload_n 0, 1) := by decide +kernel
theorem dX10_dead_22 : decode cX10_dead 22 = .ok (.iconst 1, 1) := by decide +kernel
theorem dX10_dead_23 : decode cX10_dead 23 = .ok (.invokevirtual 305, 3) := by decide +kernel
theorem dX10_dead_26 : decode cX10_dead 26 = .ok (.ireturn, 1) := by decide +kernel
theorem dX10_dead_27 : decode cX10_dead 27 = .ok (.aload_n 0, 1) := by decide +kernel
theorem dX10_dead_28 : decode cX10_dead 28 = .ok (.iload_n 1, 1) := by decide +kernel
theorem dX10_dead_29 : decode cX10_dead 29 = .ok (.invokevirtual 359, 3) := by decide +kernel
theorem dX10_dead_32 : decode cX10_dead 32 = .ok (.iconst 0, 1) := by decide +kernel
theorem dX10_dead_33 : decode cX10_dead 33 = .ok (.istore_n 3, 1) := by decide +kernel
theorem dX10_dead_34 : decode cX10_dead 34 = .ok (.iconst 0, 1) := by decide +kernel
theorem dX10_dead_35 : decode cX10_dead 35 = .ok (.istore 4, 2) := by decide +kernel
theorem dX10_dead_37 : decode cX10_dead 37 = .ok (.iload 4, 2) := by decide +kernel
theorem dX10_dead_39 : decode cX10_dead 39 = .ok (.aload_n 0, 1) := by decide +kernel
theorem dX10_dead_40 : decode cX10_dead 40 = .ok (.getfield 312, 3) := by decide +kernel
theorem dX10_dead_43 : decode cX10_dead 43 = .ok (.getfield 274, 3) := by decide +kernel
theorem dX10_dead_46 : decode cX10_dead 46 = .ok (.if_icmp .ge 54, 3) := by decide +kernel
theorem dX10_dead_49 : decode cX10_dead 49 = .ok (.iload_n 3, 1) := by decide +kernel
theorem dX10_dead_50 : decode cX10_dead 50 = .ok (.aload_n 0, 1) := by decide +kernel
theorem dX10_dead_51 : decode cX10_dead 51 = .ok (.iload 4, 2) := by decide +kernel
theorem dX10_dead_53 : decode cX10_dead 53 = .ok (.invokevirtual 412, 3) := by decide +kernel
theorem dX10_dead_56 : decode cX10_dead 56 = .ok (.ifCond .eq 35, 3) := by decide +kernel
theorem dX10_dead_59 : decode cX10_dead 59 = .ok (.iload_n 2, 1) := by decide +kernel
theorem dX10_dead_60 : decode cX10_dead 60 = .ok (.aload_n 0, 1) := by decide +kernel
theorem dX10_dead_61 : decode cX10_dead 61 = .ok (.getfield 312, 3) := by decide +kernel
theorem dX10_dead_64 : decode cX10_dead 64 = .ok (.getfield 287, 3) := by decide +kernel
theorem dX10_dead_67 : decode cX10_dead 67 = .ok (.iload 4, 2) := by decide +kernel
theorem dX10_dead_69 : decode cX10_dead 69 = .ok (.iaload, 1) := by decide +kernel
theorem dX10_dead_70 : decode cX10_dead 70 = .ok (.iadd, 1) := by decide +kernel
theorem dX10_dead_71 : decode cX10_dead 71 = .ok (.aload_n 0, 1) := by decide +kernel
theorem dX10_dead_72 : decode cX10_dead 72 = .ok (.getfield 338, 3) := by decide +kernel
theorem dX10_dead_75 : decode cX10_dead 75 = .ok (.if_icmp .le 16, 3) := by decide +kernel
theorem dX10_dead_78 : decode cX10_dead 78 = .ok (.aload_n 0, 1) := by decide +kernel
theorem dX10_dead_79 : decode cX10_dead 79 = .ok (.getfield 312, 3) := by decide +kernel
theorem dX10_dead_82 : decode cX10_dead 82 = .ok (.getfield 285, 3) := by decide +kernel
theorem dX10_dead_85 : decode cX10_dead 85 = .ok (.iload 4, 2) := by decide +kernel
theorem dX10_dead_87 : decode cX10_dead 87 = .ok (.iaload, 1) := by decide +kernel
theorem dX10_dead_88 : decode cX10_dead 88 = .ok (.goto 4, 3) := by decide +kernel
theorem dX10_dead_91 : decode cX10_dead 91 = .ok (.iconst 0, 1) := by decide +kernel
theorem dX10_dead_92 : decode cX10_dead 92 = .ok (.iadd, 1) := by decide +kernel
theorem dX10_dead_93 : decode cX10_dead 93 = .ok (.istore_n 3, 1) := by decide +kernel
theorem dX10_dead_94 : decode cX10_dead 94 = .ok (.iinc 4 1, 3) := by decide +kernel
theorem dX10_dead_97 : decode cX10_dead 97 = .ok (.goto (-60), 3) := by decide +kernel
theorem dX10_dead_100 : decode cX10_dead 100 = .ok (.aload_n 0, 1) := by decide +kernel
theorem dX10_dead_101 : decode cX10_dead 101 = .ok (.iload_n 3, 1) := by decide +kernel
theorem dX10_dead_102 : decode cX10_dead 102 = .ok (.invokevirtual 317, 3) := by decide +kernel
theorem dX10_dead_105 : decode cX10_dead 105 = .ok (.ireturn, 1) := by decide +kernel
theorem dX10_tell_0 : decode cX10_tell 0 = .ok (.aload_n 0, 1) := by decide +kernel
theorem dX10_tell_1 : decode cX10_tell 1 = .ok (.iconst 0, 1) := by decide +kernel
theorem dX10_tell_2 : decode cX10_tell 2 = .ok (.putfield 46, 3) := by decide +kernel
theorem dX10_tell_5 : decode cX10_tell 5 = .ok (.aload_n 0, 1) := by decide +kernel
theorem dX10_tell_6 : decode cX10_tell 6 = .ok (.iload_n 1, 1) := by decide +kernel
theorem dX10_tell_7 : decode cX10_tell 7 = .ok (.invokevirtual 409, 3) := by decide +kernel
theorem dX10_tell_10 : decode cX10_tell 10 = .ok (.ifCond .ne 9, 3) := by decide +kernel
theorem dX10_tell_13 : decode cX10_tell 13 = .ok (.aload_n 0, 1) := by decide +kernel
theorem dX10_tell_14 : decode cX10_tell 14 = .ok (.iconst 1, 1) := by decide +kernel
theorem dX10_tell_15 : decode cX10_tell 15 = .ok (.invokevirtual 305, 3) := by decide +kernel
theorem dX10_tell_18 : decode cX10_tell 18 = .ok (.ireturn, 1) := by decide +kernel
theorem dX10_tell_19 : decode cX10_tell 19 = .ok (.iload_n 2, 1) := by decide +kernel
theorem dX10_tell_20 : decode cX10_tell 20 = .ok (.iconst 0, 1) := by decide +kernel
theorem dX10_tell_21 : decode cX10_tell 21 = .ok (.ldc_w 415, 3) := by decide +kernel
theorem dX10_tell_24 : decode cX10_tell 24 = .ok (.invokestatic 108, 3) := by decide +kernel
theorem dX10_tell_27 : decode cX10_tell 27 = .ok (.ifCond .ne 9, 3) := by decide +kernel
theorem dX10_tell_30 : decode cX10_tell 30 = .ok (.aload_n 0, 1) := by decide +kernel
theorem dX10_tell_31 : decode cX10_tell 31 = .ok (.iconst 2, 1) := by decide +kernel
theorem dX10_tell_32 : decode cX10_tell 32 = .ok (.invokevirtual 305, 3) := by decide +kernel
theorem dX10_tell_35 : decode cX10_tell 35 = .ok (.ireturn, 1) := by decide +kernel
theorem dX10_tell_36 : decode cX10_tell 36 = .ok (.aload_n 0, 1) := by decide +kernel
theorem dX10_tell_37 : decode cX10_tell 37 = .ok (.invokevirtual 376, 3) := by decide +kernel
theorem dX10_tell_40 : decode cX10_tell 40 = .ok (.i2l, 1) := by decide +kernel
theorem dX10_tell_41 : decode cX10_tell 41 = .ok (.lstore_n 3, 1) := by decide +kernel
theorem dX10_tell_42 : decode cX10_tell 42 = .ok (.lload_n 3, 1) := by decide +kernel
theorem dX10_tell_43 : decode cX10_tell 43 = .ok (.lconst 0, 1) := by decide +kernel
theorem dX10_tell_44 : decode cX10_tell 44 = .ok (.lcmp, 1) := by decide +kernel
theorem dX10_tell_45 : decode cX10_tell 45 = .ok (.ifCond .ne 10, 3) := by decide +kernel
theorem dX10_tell_48 : decode cX10_tell 48 = .ok (.aload_n 0, 1) := by decide +kernel
theorem dX10_tell_49 : decode cX10_tell 49 = .ok (.bipush 6, 2) := by decide +kernel
theorem dX10_tell_51 : decode cX10_tell 51 = .ok (.invokevirtual 305, 3) := by decide +kernel
theorem dX10_tell_54 : decode cX10_tell 54 = .ok (.ireturn, 1) := by decide +kernel
theorem dX10_tell_55 : decode cX10_tell 55 = .ok (.lconst 0, 1) := by decide +kernel
theorem dX10_tell_56 : decode cX10_tell 56 = .ok (.lstore 5, 2) := by decide +kernel
theorem dX10_tell_58 : decode cX10_tell 58 = .ok (.bipush 60, 2) := by decide +kernel
theorem dX10_tell_60 : decode cX10_tell 60 = .ok (.istore 7, 2) := by decide +kernel
theorem dX10_tell_62 : decode cX10_tell 62 = .ok (.iconst 0, 1) := by decide +kernel
theorem dX10_tell_63 : decode cX10_tell 63 = .ok (.istore 8, 2) := by decide +kernel
theorem dX10_tell_65 : decode cX10_tell 65 = .ok (.iload 8, 2) := by decide +kernel
theorem dX10_tell_67 : decode cX10_tell 67 = .ok (.aload_n 0, 1) := by decide +kernel
theorem dX10_tell_68 : decode cX10_tell 68 = .ok (.getfield 312, 3) := by decide +kernel
theorem dX10_tell_71 : decode cX10_tell 71 = .ok (.getfield 173, 3) := by decide +kernel
theorem dX10_tell_74 : decode cX10_tell 74 = .ok (.if_icmp .ge 75, 3) := by decide +kernel
theorem dX10_tell_77 : decode cX10_tell 77 = .ok (.aload_n 0, 1) := by decide +kernel
theorem dX10_tell_78 : decode cX10_tell 78 = .ok (.getfield 42, 3) := by decide +kernel
theorem dX10_tell_81 : decode cX10_tell 81 = .ok (.iload 8, 2) := by decide +kernel
theorem dX10_tell_83 : decode cX10_tell 83 = .ok (.baload, 1) := by decide +kernel
theorem dX10_tell_84 : decode cX10_tell 84 = .ok (.ifCond .ne 6, 3) := by decide +kernel
theorem dX10_tell_87 : decode cX10_tell 87 = .ok (.goto 56, 3) := by decide +kernel
theorem dX10_tell_90 : decode cX10_tell 90 = .ok (.aload_n 0, 1) := by decide +kernel
theorem dX10_tell_91 : decode cX10_tell 91 = .ok (.iload 8, 2) := by decide +kernel
theorem dX10_tell_93 : decode cX10_tell 93 = .ok (.invokevirtual 359, 3) := by decide +kernel
theorem dX10_tell_96 : decode cX10_tell 96 = .ok (.aload_n 0, 1) := by decide +kernel
theorem dX10_tell_97 : decode cX10_tell 97 = .ok (.iload_n 1, 1) := by decide +kernel
theorem dX10_tell_98 : decode cX10_tell 98 = .ok (.invokevirtual 412, 3) := by decide +kernel
theorem dX10_tell_101 : decode cX10_tell 101 = .ok (.ifCond .ne 6, 3) := by decide +kernel
theorem dX10_tell_104 : decode cX10_tell 104 = .ok (.goto 39, 3) := by decide +kernel
theorem dX10_tell_107 : decode cX10_tell 107 = .ok (.lload 5, 2) := by decide +kernel
theorem dX10_tell_109 : decode cX10_tell 109 = .ok (.aload_n 0, 1) := by decide +kernel
theorem dX10_tell_110 : decode cX10_tell 110 = .ok (.getfield 312, 3) := by decide +kernel
theorem dX10_tell_113 : decode cX10_tell 113 = .ok (.getfield 263, 3) := by decide +kernel
theorem dX10_tell_116 : decode cX10_tell 116 = .ok (.iload 8, 2) := by decide +kernel
theorem dX10_tell_118 : decode cX10_tell 118 = .ok (.iaload, 1) := by decide +kernel
theorem dX10_tell_119 : decode cX10_tell 119 = .ok (.i2l, 1) := by decide +kernel
theorem dX10_tell_120 : decode cX10_tell 120 = .ok (.ladd, 1) := by decide +kernel
theorem dX10_tell_121 : decode cX10_tell 121 = .ok (.lstore 5, 2) := by decide +kernel
theorem dX10_tell_123 : decode cX10_tell 123 = .ok (.aload_n 0, 1) := by decide +kernel
theorem dX10_tell_124 : decode cX10_tell 124 = .ok (.getfield 338, 3) := by decide +kernel
theorem dX10_tell_127 : decode cX10_tell 127 = .ok (.iload 7, 2) := by decide +kernel
theorem dX10_tell_129 : decode cX10_tell 129 = .ok (.if_icmp .ge 10, 3) := by decide +kernel
theorem dX10_tell_132 : decode cX10_tell 132 = .ok (.aload_n 0, 1) := by decide +kernel
theorem dX10_tell_133 : decode cX10_tell 133 = .ok (.getfield 338, 3) := by decide +kernel
theorem dX10_tell_136 : decode cX10_tell 136 = .ok (.goto 5, 3) := by decide +kernel
theorem dX10_tell_139 : decode cX10_tell 139 = .ok (.iload 7, 2) := by decide +kernel
theorem dX10_tell_141 : decode cX10_tell 141 = .ok (.istore 7, 2) := by decide +kernel
theorem dX10_tell_143 : decode cX10_tell 143 = .ok (.iinc 8 1, 3) := by decide +kernel
theorem dX10_tell_146 : decode cX10_tell 146 = .ok (.goto (-81), 3) := by decide +kernel
theorem dX10_tell_149 : decode cX10_tell 149 = .ok (.lload 5, 2) := by decide +kernel
theorem dX10_tell_151 : decode cX10_tell 151 = .ok (.lconst 0, 1) := by decide +kernel
theorem dX10_tell_152 : decode cX10_tell 152 = .ok (.lcmp, 1) := by decide +kernel
theorem dX10_tell_153 : decode cX10_tell 153 = .ok (.ifCond .eq 24, 3) := by decide +kernel
theorem dX10_tell_156 : decode cX10_tell 156 = .ok (.lload 5, 2) := by decide +kernel
theorem dX10_tell_158 : decode cX10_tell 158 = .ok (.aload_n 0, 1) := by decide +kernel
theorem dX10_tell_159 : decode cX10_tell 159 = .ok (.getfield 312, 3) := by decide +kernel
theorem dX10_tell_162 : decode cX10_tell 162 = .ok (.getfield 285, 3) := by decide +kernel
theorem dX10_tell_165 : decode cX10_tell 165 = .ok (.iload_n 1, 1) := by decide +kernel
theorem dX10_tell_166 : decode cX10_tell 166 = .ok (.iaload, 1) := by decide +kernel
theorem dX10_tell_167 : decode cX10_tell 167 = .ok (.i2l, 1) := by decide +kernel
theorem dX10_tell_168 : decode cX10_tell 168 = .ok (.lmul, 1) := by decide +kernel
theorem dX10_tell_169 : decode cX10_tell 169 = .ok (.iload_n 2, 1) := by decide +kernel
theorem dX10_tell_170 : decode cX10_tell 170 = .ok (.i2l, 1) := by decide +kernel
theorem dX10_tell_171 : decode cX10_tell 171 = .ok (.lload_n 3, 1) := by decide +kernel
theorem dX10_tell_172 : decode cX10_tell 172 = .ok (.lmul, 1) := by decide +kernel
theorem dX10_tell_173 : decode cX10_tell 173 = .ok (.lcmp, 1) := by decide +kernel
theorem dX10_tell_174 : decode cX10_tell 174 = .ok (.ifCond .ge 10, 3) := by decide +kernel
theorem dX10_tell_177 : decode cX10_tell 177 = .ok (.aload_n 0, 1) := by decide +kernel
theorem dX10_tell_178 : decode cX10_tell 178 = .ok (.bipush (-2), 2) := by decide +kernel
theorem dX10_tell_180 : decode cX10_tell 180 = .ok (.invokevirtual 317, 3) := by decide +kernel
theorem dX10_tell_183 : decode cX10_tell 183 = .ok (.ireturn, 1) := by decide +kernel
theorem dX10_tell_184 : decode cX10_tell 184 = .ok (.aload_n 0, 1) := by decide +kernel
theorem dX10_tell_185 : decode cX10_tell 185 = .ok (.iload 7, 2) := by decide +kernel
theorem dX10_tell_187 : decode cX10_tell 187 = .ok (.aload_n 0, 1) := by decide +kernel
theorem dX10_tell_188 : decode cX10_tell 188 = .ok (.getfield 312, 3) := by decide +kernel
theorem dX10_tell_191 : decode cX10_tell 191 = .ok (.getfield 287, 3) := by decide +kernel
theorem dX10_tell_194 : decode cX10_tell 194 = .ok (.iload_n 1, 1) := by decide +kernel
theorem dX10_tell_195 : decode cX10_tell 195 = .ok (.iaload, 1) := by decide +kernel
theorem dX10_tell_196 : decode cX10_tell 196 = .ok (.if_icmp .le 18, 3) := by decide +kernel
theorem dX10_tell_199 : decode cX10_tell 199 = .ok (.iload 7, 2) := by decide +kernel
theorem dX10_tell_201 : decode cX10_tell 201 = .ok (.aload_n 0, 1) := by decide +kernel
theorem dX10_tell_202 : decode cX10_tell 202 = .ok (.getfield 312, 3) := by decide +kernel
theorem dX10_tell_205 : decode cX10_tell 205 = .ok (.getfield 287, 3) := by decide +kernel
theorem dX10_tell_208 : decode cX10_tell 208 = .ok (.iload_n 1, 1) := by decide +kernel
theorem dX10_tell_209 : decode cX10_tell 209 = .ok (.iaload, 1) := by decide +kernel
theorem dX10_tell_210 : decode cX10_tell 210 = .ok (.isub, 1) := by decide +kernel
theorem dX10_tell_211 : decode cX10_tell 211 = .ok (.goto 4, 3) := by decide +kernel
theorem dX10_tell_214 : decode cX10_tell 214 = .ok (.iconst 0, 1) := by decide +kernel
theorem dX10_tell_215 : decode cX10_tell 215 = .ok (.invokevirtual 317, 3) := by decide +kernel
theorem dX10_tell_218 : decode cX10_tell 218 = .ok (.ireturn, 1) := by decide +kernel
theorem dX10_part_0 : decode cX10_part 0 = .ok (.aload_n 0, 1) := by decide +kernel
theorem dX10_part_1 : decode cX10_part 1 = .ok (.iconst 0, 1) := by decide +kernel
theorem dX10_part_2 : decode cX10_part 2 = .ok (.putfield 46, 3) := by decide +kernel
theorem dX10_part_5 : decode cX10_part 5 = .ok (.aload_n 0, 1) := by decide +kernel
theorem dX10_part_6 : decode cX10_part 6 = .ok (.iload_n 1, 1) := by decide +kernel
theorem dX10_part_7 : decode cX10_part 7 = .ok (.invokevirtual 353, 3) := by decide +kernel
theorem dX10_part_10 : decode cX10_part 10 = .ok (.ifCond .eq 19, 3) := by decide +kernel
theorem dX10_part_13 : decode cX10_part 13 = .ok (.aload_n 0, 1) := by decide +kernel
theorem dX10_part_14 : decode cX10_part 14 = .ok (.iload_n 2, 1) := by decide +kernel
theorem dX10_part_15 : decode cX10_part 15 = .ok (.invokevirtual 356, 3) := by decide +kernel
theorem dX10_part_18 : decode cX10_part 18 = .ok (.ifCond .eq 11, 3) := by decide +kernel
theorem dX10_part_21 : decode cX10_part 21 = .ok (.aload_n 0, 1) := by decide +kernel
theorem dX10_part_22 : decode cX10_part 22 = .ok (.iload_n 3, 1) := by decide +kernel
theorem dX10_part_23 : decode cX10_part 23 = .ok (.invokevirtual 323, 3) := by decide +kernel
theorem dX10_part_26 : decode cX10_part 26 = .ok (.ifCond .ne 9, 3) := by decide +kernel
theorem dX10_part_29 : decode cX10_part 29 = .ok (.aload_n 0, 1) := by decide +kernel
theorem dX10_part_30 : decode cX10_part 30 = .ok (.iconst 1, 1) := by decide +kernel
theorem dX10_part_31 : decode cX10_part 31 = .ok (.invokevirtual 305, 3) := by decide +kernel
theorem dX10_part_34 : decode cX10_part 34 = .ok (.ireturn, 1) := by decide +kernel
theorem dX10_part_35 : decode cX10_part 35 = .ok (.aload_n 0, 1) := by decide +kernel
theorem dX10_part_36 : decode cX10_part 36 = .ok (.getfield 312, 3) := by decide +kernel
theorem dX10_part_39 : decode cX10_part 39 = .ok (.getfield 265, 3) := by decide +kernel
theorem dX10_part_42 : decode cX10_part 42 = .ok (.iload_n 1, 1) := by decide +kernel
theorem dX10_part_43 : decode cX10_part 43 = .ok (.iaload, 1) := by decide +kernel
theorem dX10_part_44 : decode cX10_part 44 = .ok (.iconst 5, 1) := by decide +kernel
theorem dX10_part_45 : decode cX10_part 45 = .ok (.if_icmp .eq 9, 3) := by decide +kernel
theorem dX10_part_48 : decode cX10_part 48 = .ok (.aload_n 0, 1) := by decide +kernel
theorem dX10_part_49 : decode cX10_part 49 = .ok (.iconst 0, 1) := by decide +kernel
theorem dX10_part_50 : decode cX10_part 50 = .ok (.invokevirtual 317, 3) := by decide +kernel
theorem dX10_part_53 : decode cX10_part 53 = .ok (.ireturn, 1) := by decide +kernel
theorem dX10_part_54 : decode cX10_part 54 = .ok (.aload_n 0, 1) := by decide +kernel
theorem dX10_part_55 : decode cX10_part 55 = .ok (.iload_n 1, 1) := by decide +kernel
theorem dX10_part_56 : decode cX10_part 56 = .ok (.invokevirtual 359, 3) := by decide +kernel
theorem dX10_part_59 : decode cX10_part 59 = .ok (.aload_n 0, 1) := by decide +kernel
theorem dX10_part_60 : decode cX10_part 60 = .ok (.getfield 24, 3) := by decide +kernel
theorem dX10_part_63 : decode cX10_part 63 = .ok (.bipush 60, 2) := by decide +kernel
theorem dX10_part_65 : decode cX10_part 65 = .ok (.iload_n 2, 1) := by decide +kernel
theorem dX10_part_66 : decode cX10_part 66 = .ok (.imul, 1) := by decide +kernel
theorem dX10_part_67 : decode cX10_part 67 = .ok (.iload_n 3, 1) := by decide +kernel
theorem dX10_part_68 : decode cX10_part 68 = .ok (.iadd, 1) := by decide +kernel
theorem dX10_part_69 : decode cX10_part 69 = .ok (.iaload, 1) := by decide +kernel
theorem dX10_part_70 : decode cX10_part 70 = .ok (.istore 4, 2) := by decide +kernel
theorem dX10_part_72 : decode cX10_part 72 = .ok (.aload_n 0, 1) := by decide +kernel
theorem dX10_part_73 : decode cX10_part 73 = .ok (.iload_n 1, 1) := by decide +kernel
theorem dX10_part_74 : decode cX10_part 74 = .ok (.iconst 0, 1) := by decide +kernel
theorem dX10_part_75 : decode cX10_part 75 = .ok (.invokevirtual 349, 3) := by decide +kernel
theorem dX10_part_78 : decode cX10_part 78 = .ok (.aload_n 0, 1) := by decide +kernel
theorem dX10_part_79 : decode cX10_part 79 = .ok (.iload 4, 2) := by decide +kernel
theorem dX10_part_81 : decode cX10_part 81 = .ok (.aload_n 0, 1) := by decide +kernel
theorem dX10_part_82 : decode cX10_part 82 = .ok (.getfield 24, 3) := by decide +kernel
theorem dX10_part_85 : decode cX10_part 85 = .ok (.bipush 60, 2) := by decide +kernel
theorem dX10_part_87 : decode cX10_part 87 = .ok (.iload_n 2, 1) := by decide +kernel
theorem dX10_part_88 : decode cX10_part 88 = .ok (.imul, 1) := by decide +kernel
theorem dX10_part_89 : decode cX10_part 89 = .ok (.iload_n 3, 1) := by decide +kernel
theorem dX10_part_90 : decode cX10_part 90 = .ok (.iadd, 1) := by decide +kernel
theorem dX10_part_91 : decode cX10_part 91 = .ok (.iaload, 1) := by decide +kernel
theorem dX10_part_92 : decode cX10_part 92 = .ok (.isub, 1) := by decide +kernel
theorem dX10_part_93 : decode cX10_part 93 = .ok (.invokevirtual 317, 3) := by decide +kernel
theorem dX10_part_96 : decode cX10_part 96 = .ok (.ireturn, 1) := by decide +kernel
theorem dX10_knew_0 : decode cX10_knew 0 = .ok (.aload_n 0, 1) := by decide +kernel
theorem dX10_knew_1 : decode cX10_knew 1 = .ok (.iconst 0, 1) := by decide +kernel
theorem dX10_knew_2 : decode cX10_knew 2 = .ok (.putfield 46, 3) := by decide +kernel
theorem dX10_knew_5 : decode cX10_knew 5 = .ok (.aload_n 0, 1) := by decide +kernel
theorem dX10_knew_6 : decode cX10_knew 6 = .ok (.getfield 312, 3) := by decide +kernel
theorem dX10_knew_9 : decode cX10_knew 9 = .ok (.ifnull 18, 3) := by decide +kernel
theorem dX10_knew_12 : decode cX10_knew 12 = .ok (.iload_n 1, 1) := by decide +kernel
theorem dX10_knew_13 : decode cX10_knew 13 = .ok (.ifCond .lt 14, 3) := by decide +kernel
theorem dX10_knew_16 : decode cX10_knew 16 = .ok (.iload_n 1, 1) := by decide +kernel
theorem dX10_knew_17 : decode cX10_knew 17 = .ok (.aload_n 0, 1) := by decide +kernel
theorem dX10_knew_18 : decode cX10_knew 18 = .ok (.getfield 312, 3) := by decide +kernel
theorem dX10_knew_21 : decode cX10_knew 21 = .ok (.getfield 289, 3) := by decide +kernel
theorem dX10_knew_24 : decode cX10_knew 24 = .ok (.if_icmp .lt 9, 3) := by decide +kernel
theorem dX10_knew_27 : decode cX10_knew 27 = .ok (.aload_n 0, 1) := by decide +kernel
theorem dX10_knew_28 : decode cX10_knew 28 = .ok (.iconst 1, 1) := by decide +kernel
theorem dX10_knew_29 : decode cX10_knew 29 = .ok (.invokevirtual 305, 3) := by decide +kernel
theorem dX10_knew_32 : decode cX10_knew 32 = .ok (.ireturn, 1) := by decide +kernel
theorem dX10_knew_33 : decode cX10_knew 33 = .ok (.bipush (-2), 2) := by decide +kernel
theorem dX10_knew_35 : decode cX10_knew 35 = .ok (.istore_n 2, 1) := by decide +kernel
theorem dX10_knew_36 : decode cX10_knew 36 = .ok (.iconst 0, 1) := by decide +kernel
theorem dX10_knew_37 : decode cX10_knew 37 = .ok (.istore_n 3, 1) := by decide +kernel
theorem dX10_knew_38 : decode cX10_knew 38 = .ok (.iload_n 3, 1) := by decide +kernel
theorem dX10_knew_39 : decode cX10_knew 39 = .ok (.aload_n 0, 1) := by decide +kernel
theorem dX10_knew_40 : decode cX10_knew 40 = .ok (.getfield 315, 3) := by decide +kernel
theorem dX10_knew_43 : decode cX10_knew 43 = .ok (.if_icmp .ge 71, 3) := by decide +kernel
theorem dX10_knew_46 : decode cX10_knew 46 = .ok (.aload_n 0, 1) := by decide +kernel
theorem dX10_knew_47 : decode cX10_knew 47 = .ok (.getfield 30, 3) := by decide +kernel
theorem dX10_knew_50 : decode cX10_knew 50 = .ok (.iload_n 3, 1) := by decide +kernel
theorem dX10_knew_51 : decode cX10_knew 51 = .ok (.iaload, 1) := by decide +kernel
theorem dX10_knew_52 : decode cX10_knew 52 = .ok (.aload_n 0, 1) := by decide +kernel
theorem dX10_knew_53 : decode cX10_knew 53 = .ok (.getfield 312, 3) := by decide +kernel
theorem dX10_knew_56 : decode cX10_knew 56 = .ok (.getfield 296, 3) := by decide +kernel
theorem dX10_knew_59 : decode cX10_knew 59 = .ok (.iload_n 1, 1) := by decide +kernel
theorem dX10_knew_60 : decode cX10_knew 60 = .ok (.iaload, 1) := by decide +kernel
theorem dX10_knew_61 : decode cX10_knew 61 = .ok (.if_icmp .ne 47, 3) := by decide +kernel
theorem dX10_knew_64 : decode cX10_knew 64 = .ok (.aload_n 0, 1) := by decide +kernel
theorem dX10_knew_65 : decode cX10_knew 65 = .ok (.getfield 36, 3) := by decide +kernel
theorem dX10_knew_68 : decode cX10_knew 68 = .ok (.iload_n 3, 1) := by decide +kernel
theorem dX10_knew_69 : decode cX10_knew 69 = .ok (.iaload, 1) := by decide +kernel
theorem dX10_knew_70 : decode cX10_knew 70 = .ok (.aload_n 0, 1) := by decide +kernel
theorem dX10_knew_71 : decode cX10_knew 71 = .ok (.getfield 312, 3) := by decide +kernel
theorem dX10_knew_74 : decode cX10_knew 74 = .ok (.getfield 299, 3) := by decide +kernel
theorem dX10_knew_77 : decode cX10_knew 77 = .ok (.iload_n 1, 1) := by decide +kernel
theorem dX10_knew_78 : decode cX10_knew 78 = .ok (.iaload, 1) := by decide +kernel
theorem dX10_knew_79 : decode cX10_knew 79 = .ok (.if_icmp .ge 6, 3) := by decide +kernel
theorem dX10_knew_82 : decode cX10_knew 82 = .ok (.goto 26, 3) := by decide +kernel
theorem dX10_knew_85 : decode cX10_knew 85 = .ok (.iload_n 2, 1) := by decide +kernel
theorem dX10_knew_86 : decode cX10_knew 86 = .ok (.bipush (-2), 2) := by decide +kernel
theorem dX10_knew_88 : decode cX10_knew 88 = .ok (.if_icmp .eq 13, 3) := by decide +kernel
theorem dX10_knew_91 : decode cX10_knew 91 = .ok (.aload_n 0, 1) := by decide +kernel
theorem dX10_knew_92 : decode cX10_knew 92 = .ok (.getfield 33, 3) := by decide +kernel
theorem dX10_knew_95 : decode cX10_knew 95 = .ok (.iload_n 3, 1) := by decide +kernel
theorem dX10_knew_96 : decode cX10_knew 96 = .ok (.iaload, 1) := by decide +kernel
theorem dX10_knew_97 : decode cX10_knew 97 = .ok (.iload_n 2, 1) := by decide +kernel
theorem dX10_knew_98 : decode cX10_knew 98 = .ok (.if_icmp .ge 10, 3) := by decide +kernel
theorem dX10_knew_101 : decode cX10_knew 101 = .ok (.aload_n 0, 1) := by decide +kernel
theorem dX10_knew_102 : decode cX10_knew 102 = .ok (.getfield 33, 3) := by decide +kernel
theorem dX10_knew_105 : decode cX10_knew 105 = .ok (.iload_n 3, 1) := by decide +kernel
theorem dX10_knew_106 : decode cX10_knew 106 = .ok (.iaload, 1) := by decide +kernel
theorem dX10_knew_107 : decode cX10_knew 107 = .ok (.istore_n 2, 1) := by decide +kernel
theorem dX10_knew_108 : decode cX10_knew 108 = .ok (.iinc 3 1, 3) := by decide +kernel
theorem dX10_knew_111 : decode cX10_knew 111 = .ok (.goto (-73), 3) := by decide +kernel
theorem dX10_knew_114 : decode cX10_knew 114 = .ok (.aload_n 0, 1) := by decide +kernel
theorem dX10_knew_115 : decode cX10_knew 115 = .ok (.iload_n 2, 1) := by decide +kernel
theorem dX10_knew_116 : decode cX10_knew 116 = .ok (.invokevirtual 317, 3) := by decide +kernel
theorem dX10_knew_119 : decode cX10_knew 119 = .ok (.ireturn, 1) := by decide +kernel
theorem dX10_led_0 : decode cX10_led 0 = .ok (.aload_n 0, 1) := by decide +kernel
theorem dX10_led_1 : decode cX10_led 1 = .ok (.iconst 1, 1) := by decide +kernel
theorem dX10_led_2 : decode cX10_led 2 = .ok (.putfield 46, 3) := by decide +kernel
theorem dX10_led_5 : decode cX10_led 5 = .ok (.aload_n 0, 1) := by decide +kernel
theorem dX10_led_6 : decode cX10_led 6 = .ok (.iload_n 1, 1) := by decide +kernel
theorem dX10_led_7 : decode cX10_led 7 = .ok (.invokevirtual 353, 3) := by decide +kernel
theorem dX10_led_10 : decode cX10_led 10 = .ok (.ifCond .ne 5, 3) := by decide +kernel
theorem dX10_led_13 : decode cX10_led 13 = .ok (.iconst 0, 1) := by decide +kernel
theorem dX10_led_14 : decode cX10_led 14 = .ok (.ireturn, 1) := by decide +kernel
theorem dX10_led_15 : decode cX10_led 15 = .ok (.aload_n 0, 1) := by decide +kernel
theorem dX10_led_16 : decode cX10_led 16 = .ok (.iload_n 1, 1) := by decide +kernel
theorem dX10_led_17 : decode cX10_led 17 = .ok (.invokevirtual 359, 3) := by decide +kernel
theorem dX10_led_20 : decode cX10_led 20 = .ok (.iconst 0, 1) := by decide +kernel
theorem dX10_led_21 : decode cX10_led 21 = .ok (.istore_n 3, 1) := by decide +kernel
theorem dX10_led_22 : decode cX10_led 22 = .ok (.iconst 0, 1) := by decide +kernel
theorem dX10_led_23 : decode cX10_led 23 = .ok (.istore 4, 2) := by decide +kernel
theorem dX10_led_25 : decode cX10_led 25 = .ok (.iload 4, 2) := by decide +kernel
theorem dX10_led_27 : decode cX10_led 27 = .ok (.bipush 60, 2) := by decide +kernel
theorem dX10_led_29 : decode cX10_led 29 = .ok (.if_icmp .ge 45, 3) := by decide +kernel
theorem dX10_led_32 : decode cX10_led 32 = .ok (.aload_n 0, 1) := by decide +kernel
theorem dX10_led_33 : decode cX10_led 33 = .ok (.iload 4, 2) := by decide +kernel
theorem dX10_led_35 : decode cX10_led 35 = .ok (.invokevirtual 362, 3) := by decide +kernel
theorem dX10_led_38 : decode cX10_led 38 = .ok (.aload_n 0, 1) := by decide +kernel
theorem dX10_led_39 : decode cX10_led 39 = .ok (.iload 4, 2) := by decide +kernel
theorem dX10_led_41 : decode cX10_led 41 = .ok (.iconst 1, 1) := by decide +kernel
theorem dX10_led_42 : decode cX10_led 42 = .ok (.isub, 1) := by decide +kernel
theorem dX10_led_43 : decode cX10_led 43 = .ok (.invokevirtual 362, 3) := by decide +kernel
theorem dX10_led_46 : decode cX10_led 46 = .ok (.if_icmp .gt 6, 3) := by decide +kernel
theorem dX10_led_49 : decode cX10_led 49 = .ok (.goto 19, 3) := by decide +kernel
theorem dX10_led_52 : decode cX10_led 52 = .ok (.iload_n 3, 1) := by decide +kernel
theorem dX10_led_53 : decode cX10_led 53 = .ok (.iload_n 2, 1) := by decide +kernel
theorem dX10_led_54 : decode cX10_led 54 = .ok (.if_icmp .ne 11, 3) := by decide +kernel
theorem dX10_led_57 : decode cX10_led 57 = .ok (.aload_n 0, 1) := by decide +kernel
theorem dX10_led_58 : decode cX10_led 58 = .ok (.iconst 0, 1) := by decide +kernel
theorem dX10_led_59 : decode cX10_led 59 = .ok (.putfield 46, 3) := by decide +kernel
theorem dX10_led_62 : decode cX10_led 62 = .ok (.iload 4, 2) := by decide +kernel
theorem dX10_led_64 : decode cX10_led 64 = .ok (.ireturn, 1) := by decide +kernel
theorem dX10_led_65 : decode cX10_led 65 = .ok (.iinc 3 1, 3) := by decide +kernel
theorem dX10_led_68 : decode cX10_led 68 = .ok (.iinc 4 1, 3) := by decide +kernel
theorem dX10_led_71 : decode cX10_led 71 = .ok (.goto (-46), 3) := by decide +kernel
theorem dX10_led_74 : decode cX10_led 74 = .ok (.iconst 0, 1) := by decide +kernel
theorem dX10_led_75 : decode cX10_led 75 = .ok (.ireturn, 1) := by decide +kernel
theorem dX10_size_0 : decode cX10_size 0 = .ok (.aload_n 0, 1) := by decide +kernel
theorem dX10_size_1 : decode cX10_size 1 = .ok (.iconst 0, 1) := by decide +kernel
theorem dX10_size_2 : decode cX10_size 2 = .ok (.putfield 46, 3) := by decide +kernel
theorem dX10_size_5 : decode cX10_size 5 = .ok (.iload_n 1, 1) := by decide +kernel
theorem dX10_size_6 : decode cX10_size 6 = .ok (.bipush 7, 2) := by decide +kernel
theorem dX10_size_8 : decode cX10_size 8 = .ok (.if_icmp .ne 8, 3) := by decide +kernel
theorem dX10_size_11 : decode cX10_size 11 = .ok (.aload_n 0, 1) := by decide +kernel
theorem dX10_size_12 : decode cX10_size 12 = .ok (.getfield 302, 3) := by decide +kernel
theorem dX10_size_15 : decode cX10_size 15 = .ok (.ireturn, 1) := by decide +kernel
theorem dX10_size_16 : decode cX10_size 16 = .ok (.iload_n 1, 1) := by decide +kernel
theorem dX10_size_17 : decode cX10_size 17 = .ok (.iconst 0, 1) := by decide +kernel
theorem dX10_size_18 : decode cX10_size 18 = .ok (.bipush 9, 2) := by decide +kernel
theorem dX10_size_20 : decode cX10_size 20 = .ok (.invokestatic 108, 3) := by decide +kernel
theorem dX10_size_23 : decode cX10_size 23 = .ok (.ifCond .ne 5, 3) := by decide +kernel
theorem dX10_size_26 : decode cX10_size 26 = .ok (.iconst (-1), 1) := by decide +kernel
theorem dX10_size_27 : decode cX10_size 27 = .ok (.ireturn, 1) := by decide +kernel
theorem dX10_size_28 : decode cX10_size 28 = .ok (.aload_n 0, 1) := by decide +kernel
theorem dX10_size_29 : decode cX10_size 29 = .ok (.getfield 312, 3) := by decide +kernel
theorem dX10_size_32 : decode cX10_size 32 = .ok (.ifnonnull 5, 3) := by decide +kernel
theorem dX10_size_35 : decode cX10_size 35 = .ok (.iconst 0, 1) := by decide +kernel
theorem dX10_size_36 : decode cX10_size 36 = .ok (.ireturn, 1) := by decide +kernel
theorem dX10_size_37 : decode cX10_size 37 = .ok (.iload_n 1, 1) := by decide +kernel
theorem dX10_size_38 : decode cX10_size 38 = .ok (.tableswitch 111 0 8 #[50, 58, 66, 74, 82, 90, 98, 111, 103], 50) := by decide +kernel
theorem dX10_size_88 : decode cX10_size 88 = .ok (.aload_n 0, 1) := by decide +kernel
theorem dX10_size_89 : decode cX10_size 89 = .ok (.getfield 312, 3) := by decide +kernel
theorem dX10_size_92 : decode cX10_size 92 = .ok (.getfield 170, 3) := by decide +kernel
theorem dX10_size_95 : decode cX10_size 95 = .ok (.ireturn, 1) := by decide +kernel
theorem dX10_size_96 : decode cX10_size 96 = .ok (.aload_n 0, 1) := by decide +kernel
theorem dX10_size_97 : decode cX10_size 97 = .ok (.getfield 312, 3) := by decide +kernel
theorem dX10_size_100 : decode cX10_size 100 = .ok (.getfield 224, 3) := by decide +kernel
theorem dX10_size_103 : decode cX10_size 103 = .ok (.ireturn, 1) := by decide +kernel
theorem dX10_size_104 : decode cX10_size 104 = .ok (.aload_n 0, 1) := by decide +kernel
theorem dX10_size_105 : decode cX10_size 105 = .ok (.getfield 312, 3) := by decide +kernel
theorem dX10_size_108 : decode cX10_size 108 = .ok (.getfield 237, 3) := by decide +kernel
theorem dX10_size_111 : decode cX10_size 111 = .ok (.ireturn, 1) := by decide +kernel
theorem dX10_size_112 : decode cX10_size 112 = .ok (.aload_n 0, 1) := by decide +kernel
theorem dX10_size_113 : decode cX10_size 113 = .ok (.getfield 312, 3) := by decide +kernel
theorem dX10_size_116 : decode cX10_size 116 = .ok (.getfield 173, 3) := by decide +kernel
theorem dX10_size_119 : decode cX10_size 119 = .ok (.ireturn, 1) := by decide +kernel
theorem dX10_size_120 : decode cX10_size 120 = .ok (.aload_n 0, 1) := by decide +kernel
theorem dX10_size_121 : decode cX10_size 121 = .ok (.getfield 312, 3) := by decide +kernel
theorem dX10_size_124 : decode cX10_size 124 = .ok (.getfield 274, 3) := by decide +kernel
theorem dX10_size_127 : decode cX10_size 127 = .ok (.ireturn, 1) := by decide +kernel
theorem dX10_size_128 : decode cX10_size 128 = .ok (.aload_n 0, 1) := by decide +kernel
theorem dX10_size_129 : decode cX10_size 129 = .ok (.getfield 312, 3) := by decide +kernel
theorem dX10_size_132 : decode cX10_size 132 = .ok (.getfield 289, 3) := by decide +kernel
theorem dX10_size_135 : decode cX10_size 135 = .ok (.ireturn, 1) := by decide +kernel
theorem dX10_size_136 : decode cX10_size 136 = .ok (.aload_n 0, 1) := by decide +kernel
theorem dX10_size_137 : decode cX10_size 137 = .ok (.getfield 315, 3) := by decide +kernel
theorem dX10_size_140 : decode cX10_size 140 = .ok (.ireturn, 1) := by decide +kernel
theorem dX10_size_141 : decode cX10_size 141 = .ok (.aload_n 0, 1) := by decide +kernel
theorem dX10_size_142 : decode cX10_size 142 = .ok (.getfield 312, 3) := by decide +kernel
theorem dX10_size_145 : decode cX10_size 145 = .ok (.getfield 167, 3) := by decide +kernel
theorem dX10_size_148 : decode cX10_size 148 = .ok (.ireturn, 1) := by decide +kernel
theorem dX10_size_149 : decode cX10_size 149 = .ok (.aload_n 0, 1) := by decide +kernel
theorem dX10_size_150 : decode cX10_size 150 = .ok (.getfield 312, 3) := by decide +kernel
theorem dX10_size_153 : decode cX10_size 153 = .ok (.getfield 207, 3) := by decide +kernel
theorem dX10_size_156 : decode cX10_size 156 = .ok (.ireturn, 1) := by decide +kernel
theorem dX10_trouble_0 : decode cX10_trouble 0 = .ok (.aload_n 0, 1) := by decide +kernel
theorem dX10_trouble_1 : decode cX10_trouble 1 = .ok (.iconst 0, 1) := by decide +kernel
theorem dX10_trouble_2 : decode cX10_trouble 2 = .ok (.putfield 46, 3) := by decide +kernel
theorem dX10_trouble_5 : decode cX10_trouble 5 = .ok (.aload_n 0, 1) := by decide +kernel
theorem dX10_trouble_6 : decode cX10_trouble 6 = .ok (.getfield 49, 3) := by decide +kernel
theorem dX10_trouble_9 : decode cX10_trouble 9 = .ok (.ireturn, 1) := by decide +kernel
theorem dJ0_length_8abf5_0 : decode cJ0_length_8abf5 0 = .ok (.aload_n 0, 1) := by decide +kernel
theorem dJ0_length_8abf5_1 : decode cJ0_length_8abf5 1 = .ok (.getfield 9, 3) := by decide +kernel
theorem dJ0_length_8abf5_4 : decode cJ0_length_8abf5 4 = .ok (.arraylength, 1) := by decide +kernel
theorem dJ0_length_8abf5_5 : decode cJ0_length_8abf5 5 = .ok (.aload_n 0, 1) := by decide +kernel
theorem dJ0_length_8abf5_6 : decode cJ0_length_8abf5 6 = .ok (.invokevirtual 335, 3) := by decide +kernel
theorem dJ0_length_8abf5_9 : decode cJ0_length_8abf5 9 = .ok (.ishr, 1) := by decide +kernel
theorem dJ0_length_8abf5_10 : decode cJ0_length_8abf5 10 = .ok (.ireturn, 1) := by decide +kernel
theorem dJ0_charAt_5068e_0 : decode cJ0_charAt_5068e 0 = .ok (.aload_n 0, 1) := by decide +kernel
theorem dJ0_charAt_5068e_1 : decode cJ0_charAt_5068e 1 = .ok (.invokevirtual 492, 3) := by decide +kernel
theorem dJ0_charAt_5068e_4 : decode cJ0_charAt_5068e 4 = .ok (.ifCond .eq 12, 3) := by decide +kernel
theorem dJ0_charAt_5068e_7 : decode cJ0_charAt_5068e 7 = .ok (.aload_n 0, 1) := by decide +kernel
theorem dJ0_charAt_5068e_8 : decode cJ0_charAt_5068e 8 = .ok (.getfield 9, 3) := by decide +kernel
theorem dJ0_charAt_5068e_11 : decode cJ0_charAt_5068e 11 = .ok (.iload_n 1, 1) := by decide +kernel
theorem dJ0_charAt_5068e_12 : decode cJ0_charAt_5068e 12 = .ok (.invokestatic 495, 3) := by decide +kernel
theorem dJ0_charAt_5068e_15 : decode cJ0_charAt_5068e 15 = .ok (.ireturn, 1) := by decide +kernel
theorem dJ0_coder_7d493_0 : decode cJ0_coder_7d493 0 = .ok (.getstatic 38, 3) := by decide +kernel
theorem dJ0_coder_7d493_3 : decode cJ0_coder_7d493 3 = .ok (.ifCond .eq 10, 3) := by decide +kernel
theorem dJ0_coder_7d493_6 : decode cJ0_coder_7d493 6 = .ok (.aload_n 0, 1) := by decide +kernel
theorem dJ0_coder_7d493_7 : decode cJ0_coder_7d493 7 = .ok (.getfield 15, 3) := by decide +kernel
theorem dJ0_coder_7d493_10 : decode cJ0_coder_7d493 10 = .ok (.goto 4, 3) := by decide +kernel
theorem dJ0_coder_7d493_14 : decode cJ0_coder_7d493 14 = .ok (.ireturn, 1) := by decide +kernel
theorem dJ0_isLatin1_aae02_0 : decode cJ0_isLatin1_aae02 0 = .ok (.getstatic 38, 3) := by decide +kernel
theorem dJ0_isLatin1_aae02_3 : decode cJ0_isLatin1_aae02 3 = .ok (.ifCond .eq 14, 3) := by decide +kernel
theorem dJ0_isLatin1_aae02_6 : decode cJ0_isLatin1_aae02 6 = .ok (.aload_n 0, 1) := by decide +kernel
theorem dJ0_isLatin1_aae02_7 : decode cJ0_isLatin1_aae02 7 = .ok (.getfield 15, 3) := by decide +kernel
theorem dJ0_isLatin1_aae02_10 : decode cJ0_isLatin1_aae02 10 = .ok (.ifCond .ne 7, 3) := by decide +kernel
theorem dJ0_isLatin1_aae02_13 : decode cJ0_isLatin1_aae02 13 = .ok (.iconst 1, 1) := by decide +kernel
theorem dJ0_isLatin1_aae02_14 : decode cJ0_isLatin1_aae02 14 = .ok (.goto 4, 3) := by decide +kernel
theorem dJ0_isLatin1_aae02_18 : decode cJ0_isLatin1_aae02 18 = .ok (.ireturn, 1) := by decide +kernel
theorem dJ0_checkIndex_df160_0 : decode cJ0_checkIndex_df160 0 = .ok (.iload_n 0, 1) := by decide +kernel
theorem dJ0_checkIndex_df160_1 : decode cJ0_checkIndex_df160 1 = .ok (.iload_n 1, 1) := by decide +kernel
theorem dJ0_checkIndex_df160_2 : decode cJ0_checkIndex_df160 2 = .ok (.getstatic 1053, 3) := by decide +kernel
theorem dJ0_checkIndex_df160_5 : decode cJ0_checkIndex_df160 5 = .ok (.invokestatic 1059, 3) := by decide +kernel
theorem dJ0_checkIndex_df160_8 : decode cJ0_checkIndex_df160 8 = .ok (.pop, 1) := by decide +kernel
theorem dJ0_checkIndex_df160_9 : decode cJ0_checkIndex_df160 9 = .ok (.return_, 1) := by decide +kernel
theorem dJ1_charAt_3b067_0 : decode cJ1_charAt_3b067 0 = .ok (.iload_n 1, 1) := by decide +kernel
theorem dJ1_charAt_3b067_1 : decode cJ1_charAt_3b067 1 = .ok (.aload_n 0, 1) := by decide +kernel
theorem dJ1_charAt_3b067_2 : decode cJ1_charAt_3b067 2 = .ok (.arraylength, 1) := by decide +kernel
theorem dJ1_charAt_3b067_3 : decode cJ1_charAt_3b067 3 = .ok (.invokestatic 9, 3) := by decide +kernel
theorem dJ1_charAt_3b067_6 : decode cJ1_charAt_3b067 6 = .ok (.aload_n 0, 1) := by decide +kernel
theorem dJ1_charAt_3b067_7 : decode cJ1_charAt_3b067 7 = .ok (.iload_n 1, 1) := by decide +kernel
theorem dJ1_charAt_3b067_8 : decode cJ1_charAt_3b067 8 = .ok (.baload, 1) := by decide +kernel
theorem dJ1_charAt_3b067_9 : decode cJ1_charAt_3b067 9 = .ok (.sipush 255, 3) := by decide +kernel
theorem dJ1_charAt_3b067_12 : decode cJ1_charAt_3b067 12 = .ok (.iand, 1) := by decide +kernel
theorem dJ1_charAt_3b067_13 : decode cJ1_charAt_3b067 13 = .ok (.i2c, 1) := by decide +kernel
theorem dJ1_charAt_3b067_14 : decode cJ1_charAt_3b067 14 = .ok (.ireturn, 1) := by decide +kernel
theorem dJ7_fill_53178_0 : decode cJ7_fill_53178 0 = .ok (.iconst 0, 1) := by decide +kernel
theorem dJ7_fill_53178_1 : decode cJ7_fill_53178 1 = .ok (.istore_n 2, 1) := by decide +kernel
theorem dJ7_fill_53178_2 : decode cJ7_fill_53178 2 = .ok (.aload_n 0, 1) := by decide +kernel
theorem dJ7_fill_53178_3 : decode cJ7_fill_53178 3 = .ok (.arraylength, 1) := by decide +kernel
theorem dJ7_fill_53178_4 : decode cJ7_fill_53178 4 = .ok (.istore_n 3, 1) := by decide +kernel
theorem dJ7_fill_53178_5 : decode cJ7_fill_53178 5 = .ok (.iload_n 2, 1) := by decide +kernel
theorem dJ7_fill_53178_6 : decode cJ7_fill_53178 6 = .ok (.iload_n 3, 1) := by decide +kernel
theorem dJ7_fill_53178_7 : decode cJ7_fill_53178 7 = .ok (.if_icmp .ge 13, 3) := by decide +kernel
theorem dJ7_fill_53178_10 : decode cJ7_fill_53178 10 = .ok (.aload_n 0, 1) := by decide +kernel
theorem dJ7_fill_53178_11 : decode cJ7_fill_53178 11 = .ok (.iload_n 2, 1) := by decide +kernel
theorem dJ7_fill_53178_12 : decode cJ7_fill_53178 12 = .ok (.iload_n 1, 1) := by decide +kernel
theorem dJ7_fill_53178_13 : decode cJ7_fill_53178 13 = .ok (.iastore, 1) := by decide +kernel
theorem dJ7_fill_53178_14 : decode cJ7_fill_53178 14 = .ok (.iinc 2 1, 3) := by decide +kernel
theorem dJ7_fill_53178_17 : decode cJ7_fill_53178 17 = .ok (.goto (-12), 3) := by decide +kernel
theorem dJ7_fill_53178_20 : decode cJ7_fill_53178 20 = .ok (.return_, 1) := by decide +kernel
theorem dJ3_checkIndex_8e157_0 : decode cJ3_checkIndex_8e157 0 = .ok (.iload_n 0, 1) := by decide +kernel
theorem dJ3_checkIndex_8e157_1 : decode cJ3_checkIndex_8e157 1 = .ok (.ifCond .lt 8, 3) := by decide +kernel
theorem dJ3_checkIndex_8e157_4 : decode cJ3_checkIndex_8e157 4 = .ok (.iload_n 0, 1) := by decide +kernel
theorem dJ3_checkIndex_8e157_5 : decode cJ3_checkIndex_8e157 5 = .ok (.iload_n 1, 1) := by decide +kernel
theorem dJ3_checkIndex_8e157_6 : decode cJ3_checkIndex_8e157 6 = .ok (.if_icmp .lt 10, 3) := by decide +kernel
theorem dJ3_checkIndex_8e157_16 : decode cJ3_checkIndex_8e157 16 = .ok (.iload_n 0, 1) := by decide +kernel
theorem dJ3_checkIndex_8e157_17 : decode cJ3_checkIndex_8e157 17 = .ok (.ireturn, 1) := by decide +kernel
theorem dL_led_0 : decode cL_led 0 = .ok (.aload_n 3, 1) := by decide +kernel
theorem dL_led_1 : decode cL_led 1 = .ok (.iconst 0, 1) := by decide +kernel
theorem dL_led_2 : decode cL_led 2 = .ok (.aload_n 0, 1) := by decide +kernel
theorem dL_led_3 : decode cL_led 3 = .ok (.iload_n 1, 1) := by decide +kernel
theorem dL_led_4 : decode cL_led 4 = .ok (.iload_n 2, 1) := by decide +kernel
theorem dL_led_5 : decode cL_led 5 = .ok (.invokevirtual 7, 3) := by decide +kernel
theorem dL_led_8 : decode cL_led 8 = .ok (.i2l, 1) := by decide +kernel
theorem dL_led_9 : decode cL_led 9 = .ok (.lastore, 1) := by decide +kernel
theorem dL_led_10 : decode cL_led 10 = .ok (.goto 7, 3) := by decide +kernel
theorem dL_led_13 : decode cL_led 13 = .ok (.astore 4, 2) := by decide +kernel
theorem dL_led_15 : decode cL_led 15 = .ok (.iconst 1, 1) := by decide +kernel
theorem dL_led_16 : decode cL_led 16 = .ok (.ireturn, 1) := by decide +kernel
theorem dL_led_17 : decode cL_led 17 = .ok (.iconst 0, 1) := by decide +kernel
theorem dL_led_18 : decode cL_led 18 = .ok (.ireturn, 1) := by decide +kernel
theorem dL_law_0 : decode cL_law 0 = .ok (.new 8, 3) := by decide +kernel
theorem dL_law_3 : decode cL_law 3 = .ok (.dup, 1) := by decide +kernel
theorem dL_law_4 : decode cL_law 4 = .ok (.invokespecial 15, 3) := by decide +kernel
theorem dL_law_7 : decode cL_law 7 = .ok (.astore_n 1, 1) := by decide +kernel
theorem dL_law_8 : decode cL_law 8 = .ok (.new 16, 3) := by decide +kernel
theorem dL_law_11 : decode cL_law 11 = .ok (.dup, 1) := by decide +kernel
theorem dL_law_12 : decode cL_law 12 = .ok (.invokespecial 18, 3) := by decide +kernel
theorem dL_law_15 : decode cL_law 15 = .ok (.astore_n 2, 1) := by decide +kernel
theorem dL_law_16 : decode cL_law 16 = .ok (.iconst 1, 1) := by decide +kernel
theorem dL_law_17 : decode cL_law 17 = .ok (.newarray .long, 2) := by decide +kernel
theorem dL_law_19 : decode cL_law 19 = .ok (.astore_n 3, 1) := by decide +kernel
theorem dL_law_20 : decode cL_law 20 = .ok (.iconst 0, 1) := by decide +kernel
theorem dL_law_21 : decode cL_law 21 = .ok (.istore 4, 2) := by decide +kernel
theorem dL_law_23 : decode cL_law 23 = .ok (.iload 4, 2) := by decide +kernel
theorem dL_law_25 : decode cL_law 25 = .ok (.aload_n 0, 1) := by decide +kernel
theorem dL_law_26 : decode cL_law 26 = .ok (.arraylength, 1) := by decide +kernel
theorem dL_law_27 : decode cL_law 27 = .ok (.bipush 6, 2) := by decide +kernel
theorem dL_law_29 : decode cL_law 29 = .ok (.isub, 1) := by decide +kernel
theorem dL_law_30 : decode cL_law 30 = .ok (.if_icmp .gt 1229, 3) := by decide +kernel
theorem dL_law_33 : decode cL_law 33 = .ok (.aload_n 0, 1) := by decide +kernel
theorem dL_law_34 : decode cL_law 34 = .ok (.iload 4, 2) := by decide +kernel
theorem dL_law_36 : decode cL_law 36 = .ok (.iaload, 1) := by decide +kernel
theorem dL_law_37 : decode cL_law 37 = .ok (.bipush 63, 2) := by decide +kernel
theorem dL_law_39 : decode cL_law 39 = .ok (.iand, 1) := by decide +kernel
theorem dL_law_40 : decode cL_law 40 = .ok (.tableswitch 1213 0 33 #[152, 225, 250, 263, 276, 301, 338, 351, 412, 437, 462, 523, 536, 549, 574, 599, 612, 625, 650, 675, 724, 813, 850, 875, 900, 937, 950, 987, 1024, 1061, 1110, 1135, 1175, 1200], 152) := by decide +kernel
theorem dL_law_192 : decode cL_law 192 = .ok (.aload_n 1, 1) := by decide +kernel
theorem dL_law_193 : decode cL_law 193 = .ok (.aload_n 0, 1) := by decide +kernel
theorem dL_law_194 : decode cL_law 194 = .ok (.iload 4, 2) := by decide +kernel
theorem dL_law_196 : decode cL_law 196 = .ok (.iconst 1, 1) := by decide +kernel
theorem dL_law_197 : decode cL_law 197 = .ok (.iadd, 1) := by decide +kernel
theorem dL_law_198 : decode cL_law 198 = .ok (.iaload, 1) := by decide +kernel
theorem dL_law_199 : decode cL_law 199 = .ok (.aload_n 0, 1) := by decide +kernel
theorem dL_law_200 : decode cL_law 200 = .ok (.iload 4, 2) := by decide +kernel
theorem dL_law_202 : decode cL_law 202 = .ok (.iconst 2, 1) := by decide +kernel
theorem dL_law_203 : decode cL_law 203 = .ok (.iadd, 1) := by decide +kernel
theorem dL_law_204 : decode cL_law 204 = .ok (.iaload, 1) := by decide +kernel
theorem dL_law_205 : decode cL_law 205 = .ok (.aload_n 0, 1) := by decide +kernel
theorem dL_law_206 : decode cL_law 206 = .ok (.iload 4, 2) := by decide +kernel
theorem dL_law_208 : decode cL_law 208 = .ok (.iconst 3, 1) := by decide +kernel
theorem dL_law_209 : decode cL_law 209 = .ok (.iadd, 1) := by decide +kernel
theorem dL_law_210 : decode cL_law 210 = .ok (.iaload, 1) := by decide +kernel
theorem dL_law_211 : decode cL_law 211 = .ok (.aload_n 0, 1) := by decide +kernel
theorem dL_law_212 : decode cL_law 212 = .ok (.iload 4, 2) := by decide +kernel
theorem dL_law_214 : decode cL_law 214 = .ok (.iconst 4, 1) := by decide +kernel
theorem dL_law_215 : decode cL_law 215 = .ok (.iadd, 1) := by decide +kernel
theorem dL_law_216 : decode cL_law 216 = .ok (.iaload, 1) := by decide +kernel
theorem dL_law_217 : decode cL_law 217 = .ok (.aload_n 0, 1) := by decide +kernel
theorem dL_law_218 : decode cL_law 218 = .ok (.iload 4, 2) := by decide +kernel
theorem dL_law_220 : decode cL_law 220 = .ok (.iconst 5, 1) := by decide +kernel
theorem dL_law_221 : decode cL_law 221 = .ok (.iadd, 1) := by decide +kernel
theorem dL_law_222 : decode cL_law 222 = .ok (.iaload, 1) := by decide +kernel
theorem dL_law_223 : decode cL_law 223 = .ok (.invokevirtual 19, 3) := by decide +kernel
theorem dL_law_226 : decode cL_law 226 = .ok (.pop, 1) := by decide +kernel
theorem dL_law_227 : decode cL_law 227 = .ok (.aload_n 2, 1) := by decide +kernel
theorem dL_law_228 : decode cL_law 228 = .ok (.aload_n 0, 1) := by decide +kernel
theorem dL_law_229 : decode cL_law 229 = .ok (.iload 4, 2) := by decide +kernel
theorem dL_law_231 : decode cL_law 231 = .ok (.iconst 1, 1) := by decide +kernel
theorem dL_law_232 : decode cL_law 232 = .ok (.iadd, 1) := by decide +kernel
theorem dL_law_233 : decode cL_law 233 = .ok (.iaload, 1) := by decide +kernel
theorem dL_law_234 : decode cL_law 234 = .ok (.aload_n 0, 1) := by decide +kernel
theorem dL_law_235 : decode cL_law 235 = .ok (.iload 4, 2) := by decide +kernel
theorem dL_law_237 : decode cL_law 237 = .ok (.iconst 2, 1) := by decide +kernel
theorem dL_law_238 : decode cL_law 238 = .ok (.iadd, 1) := by decide +kernel
theorem dL_law_239 : decode cL_law 239 = .ok (.iaload, 1) := by decide +kernel
theorem dL_law_240 : decode cL_law 240 = .ok (.aload_n 0, 1) := by decide +kernel
theorem dL_law_241 : decode cL_law 241 = .ok (.iload 4, 2) := by decide +kernel
theorem dL_law_243 : decode cL_law 243 = .ok (.iconst 3, 1) := by decide +kernel
theorem dL_law_244 : decode cL_law 244 = .ok (.iadd, 1) := by decide +kernel
theorem dL_law_245 : decode cL_law 245 = .ok (.iaload, 1) := by decide +kernel
theorem dL_law_246 : decode cL_law 246 = .ok (.aload_n 0, 1) := by decide +kernel
theorem dL_law_247 : decode cL_law 247 = .ok (.iload 4, 2) := by decide +kernel
theorem dL_law_249 : decode cL_law 249 = .ok (.iconst 4, 1) := by decide +kernel
theorem dL_law_250 : decode cL_law 250 = .ok (.iadd, 1) := by decide +kernel
theorem dL_law_251 : decode cL_law 251 = .ok (.iaload, 1) := by decide +kernel
theorem dL_law_252 : decode cL_law 252 = .ok (.aload_n 0, 1) := by decide +kernel
theorem dL_law_253 : decode cL_law 253 = .ok (.iload 4, 2) := by decide +kernel
theorem dL_law_255 : decode cL_law 255 = .ok (.iconst 5, 1) := by decide +kernel
theorem dL_law_256 : decode cL_law 256 = .ok (.iadd, 1) := by decide +kernel
theorem dL_law_257 : decode cL_law 257 = .ok (.iaload, 1) := by decide +kernel
theorem dL_law_258 : decode cL_law 258 = .ok (.invokevirtual 23, 3) := by decide +kernel
theorem dL_law_261 : decode cL_law 261 = .ok (.pop, 1) := by decide +kernel
theorem dL_law_262 : decode cL_law 262 = .ok (.goto 991, 3) := by decide +kernel
theorem dL_law_265 : decode cL_law 265 = .ok (.aload_n 1, 1) := by decide +kernel
theorem dL_law_266 : decode cL_law 266 = .ok (.aload_n 0, 1) := by decide +kernel
theorem dL_law_267 : decode cL_law 267 = .ok (.iload 4, 2) := by decide +kernel
theorem dL_law_269 : decode cL_law 269 = .ok (.iconst 1, 1) := by decide +kernel
theorem dL_law_270 : decode cL_law 270 = .ok (.iadd, 1) := by decide +kernel
theorem dL_law_271 : decode cL_law 271 = .ok (.iaload, 1) := by decide +kernel
theorem dL_law_272 : decode cL_law 272 = .ok (.invokevirtual 24, 3) := by decide +kernel
theorem dL_law_275 : decode cL_law 275 = .ok (.pop, 1) := by decide +kernel
theorem dL_law_276 : decode cL_law 276 = .ok (.aload_n 2, 1) := by decide +kernel
theorem dL_law_277 : decode cL_law 277 = .ok (.aload_n 0, 1) := by decide +kernel
theorem dL_law_278 : decode cL_law 278 = .ok (.iload 4, 2) := by decide +kernel
theorem dL_law_280 : decode cL_law 280 = .ok (.iconst 1, 1) := by decide +kernel
theorem dL_law_281 : decode cL_law 281 = .ok (.iadd, 1) := by decide +kernel
theorem dL_law_282 : decode cL_law 282 = .ok (.iaload, 1) := by decide +kernel
theorem dL_law_283 : decode cL_law 283 = .ok (.invokevirtual 28, 3) := by decide +kernel
theorem dL_law_286 : decode cL_law 286 = .ok (.pop, 1) := by decide +kernel
theorem dL_law_287 : decode cL_law 287 = .ok (.goto 966, 3) := by decide +kernel
theorem dL_law_290 : decode cL_law 290 = .ok (.aload_n 1, 1) := by decide +kernel
theorem dL_law_291 : decode cL_law 291 = .ok (.invokevirtual 29, 3) := by decide +kernel
theorem dL_law_294 : decode cL_law 294 = .ok (.pop, 1) := by decide +kernel
theorem dL_law_295 : decode cL_law 295 = .ok (.aload_n 2, 1) := by decide +kernel
theorem dL_law_296 : decode cL_law 296 = .ok (.invokevirtual 33, 3) := by decide +kernel
theorem dL_law_299 : decode cL_law 299 = .ok (.pop, 1) := by decide +kernel
theorem dL_law_300 : decode cL_law 300 = .ok (.goto 953, 3) := by decide +kernel
theorem dL_law_303 : decode cL_law 303 = .ok (.aload_n 1, 1) := by decide +kernel
theorem dL_law_304 : decode cL_law 304 = .ok (.invokevirtual 34, 3) := by decide +kernel
theorem dL_law_307 : decode cL_law 307 = .ok (.pop, 1) := by decide +kernel
theorem dL_law_308 : decode cL_law 308 = .ok (.aload_n 2, 1) := by decide +kernel
theorem dL_law_309 : decode cL_law 309 = .ok (.invokevirtual 37, 3) := by decide +kernel
theorem dL_law_312 : decode cL_law 312 = .ok (.pop, 1) := by decide +kernel
theorem dL_law_313 : decode cL_law 313 = .ok (.goto 940, 3) := by decide +kernel
theorem dL_law_316 : decode cL_law 316 = .ok (.aload_n 1, 1) := by decide +kernel
theorem dL_law_317 : decode cL_law 317 = .ok (.aload_n 0, 1) := by decide +kernel
theorem dL_law_318 : decode cL_law 318 = .ok (.iload 4, 2) := by decide +kernel
theorem dL_law_320 : decode cL_law 320 = .ok (.iconst 1, 1) := by decide +kernel
theorem dL_law_321 : decode cL_law 321 = .ok (.iadd, 1) := by decide +kernel
theorem dL_law_322 : decode cL_law 322 = .ok (.iaload, 1) := by decide +kernel
theorem dL_law_323 : decode cL_law 323 = .ok (.invokevirtual 38, 3) := by decide +kernel
theorem dL_law_326 : decode cL_law 326 = .ok (.pop, 1) := by decide +kernel
theorem dL_law_327 : decode cL_law 327 = .ok (.aload_n 2, 1) := by decide +kernel
theorem dL_law_328 : decode cL_law 328 = .ok (.aload_n 0, 1) := by decide +kernel
theorem dL_law_329 : decode cL_law 329 = .ok (.iload 4, 2) := by decide +kernel
theorem dL_law_331 : decode cL_law 331 = .ok (.iconst 1, 1) := by decide +kernel
theorem dL_law_332 : decode cL_law 332 = .ok (.iadd, 1) := by decide +kernel
theorem dL_law_333 : decode cL_law 333 = .ok (.iaload, 1) := by decide +kernel
theorem dL_law_334 : decode cL_law 334 = .ok (.invokevirtual 41, 3) := by decide +kernel
theorem dL_law_337 : decode cL_law 337 = .ok (.pop, 1) := by decide +kernel
theorem dL_law_338 : decode cL_law 338 = .ok (.goto 915, 3) := by decide +kernel
theorem dL_law_341 : decode cL_law 341 = .ok (.aload_n 1, 1) := by decide +kernel
theorem dL_law_342 : decode cL_law 342 = .ok (.aload_n 0, 1) := by decide +kernel
theorem dL_law_343 : decode cL_law 343 = .ok (.iload 4, 2) := by decide +kernel
theorem dL_law_345 : decode cL_law 345 = .ok (.iconst 1, 1) := by decide +kernel
theorem dL_law_346 : decode cL_law 346 = .ok (.iadd, 1) := by decide +kernel
theorem dL_law_347 : decode cL_law 347 = .ok (.iaload, 1) := by decide +kernel
theorem dL_law_348 : decode cL_law 348 = .ok (.aload_n 0, 1) := by decide +kernel
theorem dL_law_349 : decode cL_law 349 = .ok (.iload 4, 2) := by decide +kernel
theorem dL_law_351 : decode cL_law 351 = .ok (.iconst 2, 1) := by decide +kernel
theorem dL_law_352 : decode cL_law 352 = .ok (.iadd, 1) := by decide +kernel
theorem dL_law_353 : decode cL_law 353 = .ok (.iaload, 1) := by decide +kernel
theorem dL_law_354 : decode cL_law 354 = .ok (.invokevirtual 42, 3) := by decide +kernel
theorem dL_law_357 : decode cL_law 357 = .ok (.pop, 1) := by decide +kernel
theorem dL_law_358 : decode cL_law 358 = .ok (.aload_n 2, 1) := by decide +kernel
theorem dL_law_359 : decode cL_law 359 = .ok (.aload_n 0, 1) := by decide +kernel
theorem dL_law_360 : decode cL_law 360 = .ok (.iload 4, 2) := by decide +kernel
theorem dL_law_362 : decode cL_law 362 = .ok (.iconst 1, 1) := by decide +kernel
theorem dL_law_363 : decode cL_law 363 = .ok (.iadd, 1) := by decide +kernel
theorem dL_law_364 : decode cL_law 364 = .ok (.iaload, 1) := by decide +kernel
theorem dL_law_365 : decode cL_law 365 = .ok (.aload_n 0, 1) := by decide +kernel
theorem dL_law_366 : decode cL_law 366 = .ok (.iload 4, 2) := by decide +kernel
theorem dL_law_368 : decode cL_law 368 = .ok (.iconst 2, 1) := by decide +kernel
theorem dL_law_369 : decode cL_law 369 = .ok (.iadd, 1) := by decide +kernel
theorem dL_law_370 : decode cL_law 370 = .ok (.iaload, 1) := by decide +kernel
theorem dL_law_371 : decode cL_law 371 = .ok (.invokevirtual 45, 3) := by decide +kernel
theorem dL_law_374 : decode cL_law 374 = .ok (.pop, 1) := by decide +kernel
theorem dL_law_375 : decode cL_law 375 = .ok (.goto 878, 3) := by decide +kernel
theorem dL_law_378 : decode cL_law 378 = .ok (.aload_n 1, 1) := by decide +kernel
theorem dL_law_379 : decode cL_law 379 = .ok (.invokevirtual 46, 3) := by decide +kernel
theorem dL_law_382 : decode cL_law 382 = .ok (.pop, 1) := by decide +kernel
theorem dL_law_383 : decode cL_law 383 = .ok (.aload_n 2, 1) := by decide +kernel
theorem dL_law_384 : decode cL_law 384 = .ok (.invokevirtual 50, 3) := by decide +kernel
theorem dL_law_387 : decode cL_law 387 = .ok (.pop, 1) := by decide +kernel
theorem dL_law_388 : decode cL_law 388 = .ok (.goto 865, 3) := by decide +kernel
theorem dL_law_391 : decode cL_law 391 = .ok (.aload_n 1, 1) := by decide +kernel
theorem dL_law_392 : decode cL_law 392 = .ok (.aload_n 0, 1) := by decide +kernel
theorem dL_law_393 : decode cL_law 393 = .ok (.iload 4, 2) := by decide +kernel
theorem dL_law_395 : decode cL_law 395 = .ok (.iconst 1, 1) := by decide +kernel
theorem dL_law_396 : decode cL_law 396 = .ok (.iadd, 1) := by decide +kernel
theorem dL_law_397 : decode cL_law 397 = .ok (.iaload, 1) := by decide +kernel
theorem dL_law_398 : decode cL_law 398 = .ok (.aload_n 0, 1) := by decide +kernel
theorem dL_law_399 : decode cL_law 399 = .ok (.iload 4, 2) := by decide +kernel
theorem dL_law_401 : decode cL_law 401 = .ok (.iconst 2, 1) := by decide +kernel
theorem dL_law_402 : decode cL_law 402 = .ok (.iadd, 1) := by decide +kernel
theorem dL_law_403 : decode cL_law 403 = .ok (.iaload, 1) := by decide +kernel
theorem dL_law_404 : decode cL_law 404 = .ok (.aload_n 0, 1) := by decide +kernel
theorem dL_law_405 : decode cL_law 405 = .ok (.iload 4, 2) := by decide +kernel
theorem dL_law_407 : decode cL_law 407 = .ok (.iconst 3, 1) := by decide +kernel
theorem dL_law_408 : decode cL_law 408 = .ok (.iadd, 1) := by decide +kernel
theorem dL_law_409 : decode cL_law 409 = .ok (.iaload, 1) := by decide +kernel
theorem dL_law_410 : decode cL_law 410 = .ok (.aload_n 0, 1) := by decide +kernel
theorem dL_law_411 : decode cL_law 411 = .ok (.iload 4, 2) := by decide +kernel
theorem dL_law_413 : decode cL_law 413 = .ok (.iconst 4, 1) := by decide +kernel
theorem dL_law_414 : decode cL_law 414 = .ok (.iadd, 1) := by decide +kernel
theorem dL_law_415 : decode cL_law 415 = .ok (.iaload, 1) := by decide +kernel
theorem dL_law_416 : decode cL_law 416 = .ok (.invokevirtual 51, 3) := by decide +kernel
theorem dL_law_419 : decode cL_law 419 = .ok (.pop, 1) := by decide +kernel
theorem dL_law_420 : decode cL_law 420 = .ok (.aload_n 2, 1) := by decide +kernel
theorem dL_law_421 : decode cL_law 421 = .ok (.aload_n 0, 1) := by decide +kernel
theorem dL_law_422 : decode cL_law 422 = .ok (.iload 4, 2) := by decide +kernel
theorem dL_law_424 : decode cL_law 424 = .ok (.iconst 1, 1) := by decide +kernel
theorem dL_law_425 : decode cL_law 425 = .ok (.iadd, 1) := by decide +kernel
theorem dL_law_426 : decode cL_law 426 = .ok (.iaload, 1) := by decide +kernel
theorem dL_law_427 : decode cL_law 427 = .ok (.aload_n 0, 1) := by decide +kernel
theorem dL_law_428 : decode cL_law 428 = .ok (.iload 4, 2) := by decide +kernel
theorem dL_law_430 : decode cL_law 430 = .ok (.iconst 2, 1) := by decide +kernel
theorem dL_law_431 : decode cL_law 431 = .ok (.iadd, 1) := by decide +kernel
theorem dL_law_432 : decode cL_law 432 = .ok (.iaload, 1) := by decide +kernel
theorem dL_law_433 : decode cL_law 433 = .ok (.aload_n 0, 1) := by decide +kernel
theorem dL_law_434 : decode cL_law 434 = .ok (.iload 4, 2) := by decide +kernel
theorem dL_law_436 : decode cL_law 436 = .ok (.iconst 3, 1) := by decide +kernel
theorem dL_law_437 : decode cL_law 437 = .ok (.iadd, 1) := by decide +kernel
theorem dL_law_438 : decode cL_law 438 = .ok (.iaload, 1) := by decide +kernel
theorem dL_law_439 : decode cL_law 439 = .ok (.aload_n 0, 1) := by decide +kernel
theorem dL_law_440 : decode cL_law 440 = .ok (.iload 4, 2) := by decide +kernel
theorem dL_law_442 : decode cL_law 442 = .ok (.iconst 4, 1) := by decide +kernel
theorem dL_law_443 : decode cL_law 443 = .ok (.iadd, 1) := by decide +kernel
theorem dL_law_444 : decode cL_law 444 = .ok (.iaload, 1) := by decide +kernel
theorem dL_law_445 : decode cL_law 445 = .ok (.invokevirtual 55, 3) := by decide +kernel
theorem dL_law_448 : decode cL_law 448 = .ok (.pop, 1) := by decide +kernel
theorem dL_law_449 : decode cL_law 449 = .ok (.goto 804, 3) := by decide +kernel
theorem dL_law_452 : decode cL_law 452 = .ok (.aload_n 1, 1) := by decide +kernel
theorem dL_law_453 : decode cL_law 453 = .ok (.aload_n 0, 1) := by decide +kernel
theorem dL_law_454 : decode cL_law 454 = .ok (.iload 4, 2) := by decide +kernel
theorem dL_law_456 : decode cL_law 456 = .ok (.iconst 1, 1) := by decide +kernel
theorem dL_law_457 : decode cL_law 457 = .ok (.iadd, 1) := by decide +kernel
theorem dL_law_458 : decode cL_law 458 = .ok (.iaload, 1) := by decide +kernel
theorem dL_law_459 : decode cL_law 459 = .ok (.invokevirtual 56, 3) := by decide +kernel
theorem dL_law_462 : decode cL_law 462 = .ok (.pop, 1) := by decide +kernel
theorem dL_law_463 : decode cL_law 463 = .ok (.aload_n 2, 1) := by decide +kernel
theorem dL_law_464 : decode cL_law 464 = .ok (.aload_n 0, 1) := by decide +kernel
theorem dL_law_465 : decode cL_law 465 = .ok (.iload 4, 2) := by decide +kernel
theorem dL_law_467 : decode cL_law 467 = .ok (.iconst 1, 1) := by decide +kernel
theorem dL_law_468 : decode cL_law 468 = .ok (.iadd, 1) := by decide +kernel
theorem dL_law_469 : decode cL_law 469 = .ok (.iaload, 1) := by decide +kernel
theorem dL_law_470 : decode cL_law 470 = .ok (.invokevirtual 59, 3) := by decide +kernel
theorem dL_law_473 : decode cL_law 473 = .ok (.pop, 1) := by decide +kernel
theorem dL_law_474 : decode cL_law 474 = .ok (.goto 779, 3) := by decide +kernel
theorem dL_law_477 : decode cL_law 477 = .ok (.aload_n 1, 1) := by decide +kernel
theorem dL_law_478 : decode cL_law 478 = .ok (.aload_n 0, 1) := by decide +kernel
theorem dL_law_479 : decode cL_law 479 = .ok (.iload 4, 2) := by decide +kernel
theorem dL_law_481 : decode cL_law 481 = .ok (.iconst 1, 1) := by decide +kernel
theorem dL_law_482 : decode cL_law 482 = .ok (.iadd, 1) := by decide +kernel
theorem dL_law_483 : decode cL_law 483 = .ok (.iaload, 1) := by decide +kernel
theorem dL_law_484 : decode cL_law 484 = .ok (.invokevirtual 60, 3) := by decide +kernel
theorem dL_law_487 : decode cL_law 487 = .ok (.pop, 1) := by decide +kernel
theorem dL_law_488 : decode cL_law 488 = .ok (.aload_n 2, 1) := by decide +kernel
theorem dL_law_489 : decode cL_law 489 = .ok (.aload_n 0, 1) := by decide +kernel
theorem dL_law_490 : decode cL_law 490 = .ok (.iload 4, 2) := by decide +kernel
theorem dL_law_492 : decode cL_law 492 = .ok (.iconst 1, 1) := by decide +kernel
theorem dL_law_493 : decode cL_law 493 = .ok (.iadd, 1) := by decide +kernel
theorem dL_law_494 : decode cL_law 494 = .ok (.iaload, 1) := by decide +kernel
theorem dL_law_495 : decode cL_law 495 = .ok (.invokevirtual 63, 3) := by decide +kernel
theorem dL_law_498 : decode cL_law 498 = .ok (.pop, 1) := by decide +kernel
theorem dL_law_499 : decode cL_law 499 = .ok (.goto 754, 3) := by decide +kernel
theorem dL_law_502 : decode cL_law 502 = .ok (.aload_n 1, 1) := by decide +kernel
theorem dL_law_503 : decode cL_law 503 = .ok (.aload_n 0, 1) := by decide +kernel
theorem dL_law_504 : decode cL_law 504 = .ok (.iload 4, 2) := by decide +kernel
theorem dL_law_506 : decode cL_law 506 = .ok (.iconst 1, 1) := by decide +kernel
theorem dL_law_507 : decode cL_law 507 = .ok (.iadd, 1) := by decide +kernel
theorem dL_law_508 : decode cL_law 508 = .ok (.iaload, 1) := by decide +kernel
theorem dL_law_509 : decode cL_law 509 = .ok (.aload_n 0, 1) := by decide +kernel
theorem dL_law_510 : decode cL_law 510 = .ok (.iload 4, 2) := by decide +kernel
theorem dL_law_512 : decode cL_law 512 = .ok (.iconst 2, 1) := by decide +kernel
theorem dL_law_513 : decode cL_law 513 = .ok (.iadd, 1) := by decide +kernel
theorem dL_law_514 : decode cL_law 514 = .ok (.iaload, 1) := by decide +kernel
theorem dL_law_515 : decode cL_law 515 = .ok (.aload_n 0, 1) := by decide +kernel
theorem dL_law_516 : decode cL_law 516 = .ok (.iload 4, 2) := by decide +kernel
theorem dL_law_518 : decode cL_law 518 = .ok (.iconst 3, 1) := by decide +kernel
theorem dL_law_519 : decode cL_law 519 = .ok (.iadd, 1) := by decide +kernel
theorem dL_law_520 : decode cL_law 520 = .ok (.iaload, 1) := by decide +kernel
theorem dL_law_521 : decode cL_law 521 = .ok (.aload_n 0, 1) := by decide +kernel
theorem dL_law_522 : decode cL_law 522 = .ok (.iload 4, 2) := by decide +kernel
theorem dL_law_524 : decode cL_law 524 = .ok (.iconst 4, 1) := by decide +kernel
theorem dL_law_525 : decode cL_law 525 = .ok (.iadd, 1) := by decide +kernel
theorem dL_law_526 : decode cL_law 526 = .ok (.iaload, 1) := by decide +kernel
theorem dL_law_527 : decode cL_law 527 = .ok (.invokevirtual 64, 3) := by decide +kernel
theorem dL_law_530 : decode cL_law 530 = .ok (.pop, 1) := by decide +kernel
theorem dL_law_531 : decode cL_law 531 = .ok (.aload_n 2, 1) := by decide +kernel
theorem dL_law_532 : decode cL_law 532 = .ok (.aload_n 0, 1) := by decide +kernel
theorem dL_law_533 : decode cL_law 533 = .ok (.iload 4, 2) := by decide +kernel
theorem dL_law_535 : decode cL_law 535 = .ok (.iconst 1, 1) := by decide +kernel
theorem dL_law_536 : decode cL_law 536 = .ok (.iadd, 1) := by decide +kernel
theorem dL_law_537 : decode cL_law 537 = .ok (.iaload, 1) := by decide +kernel
theorem dL_law_538 : decode cL_law 538 = .ok (.aload_n 0, 1) := by decide +kernel
theorem dL_law_539 : decode cL_law 539 = .ok (.iload 4, 2) := by decide +kernel
theorem dL_law_541 : decode cL_law 541 = .ok (.iconst 2, 1) := by decide +kernel
theorem dL_law_542 : decode cL_law 542 = .ok (.iadd, 1) := by decide +kernel
theorem dL_law_543 : decode cL_law 543 = .ok (.iaload, 1) := by decide +kernel
theorem dL_law_544 : decode cL_law 544 = .ok (.aload_n 0, 1) := by decide +kernel
theorem dL_law_545 : decode cL_law 545 = .ok (.iload 4, 2) := by decide +kernel
theorem dL_law_547 : decode cL_law 547 = .ok (.iconst 3, 1) := by decide +kernel
theorem dL_law_548 : decode cL_law 548 = .ok (.iadd, 1) := by decide +kernel
theorem dL_law_549 : decode cL_law 549 = .ok (.iaload, 1) := by decide +kernel
theorem dL_law_550 : decode cL_law 550 = .ok (.aload_n 0, 1) := by decide +kernel
theorem dL_law_551 : decode cL_law 551 = .ok (.iload 4, 2) := by decide +kernel
theorem dL_law_553 : decode cL_law 553 = .ok (.iconst 4, 1) := by decide +kernel
theorem dL_law_554 : decode cL_law 554 = .ok (.iadd, 1) := by decide +kernel
theorem dL_law_555 : decode cL_law 555 = .ok (.iaload, 1) := by decide +kernel
theorem dL_law_556 : decode cL_law 556 = .ok (.invokevirtual 67, 3) := by decide +kernel
theorem dL_law_559 : decode cL_law 559 = .ok (.pop, 1) := by decide +kernel
theorem dL_law_560 : decode cL_law 560 = .ok (.goto 693, 3) := by decide +kernel
theorem dL_law_563 : decode cL_law 563 = .ok (.aload_n 1, 1) := by decide +kernel
theorem dL_law_564 : decode cL_law 564 = .ok (.invokevirtual 68, 3) := by decide +kernel
theorem dL_law_567 : decode cL_law 567 = .ok (.pop, 1) := by decide +kernel
theorem dL_law_568 : decode cL_law 568 = .ok (.aload_n 2, 1) := by decide +kernel
theorem dL_law_569 : decode cL_law 569 = .ok (.invokevirtual 71, 3) := by decide +kernel
theorem dL_law_572 : decode cL_law 572 = .ok (.pop, 1) := by decide +kernel
theorem dL_law_573 : decode cL_law 573 = .ok (.goto 680, 3) := by decide +kernel
theorem dL_law_576 : decode cL_law 576 = .ok (.aload_n 1, 1) := by decide +kernel
theorem dL_law_577 : decode cL_law 577 = .ok (.invokevirtual 72, 3) := by decide +kernel
theorem dL_law_580 : decode cL_law 580 = .ok (.pop, 1) := by decide +kernel
theorem dL_law_581 : decode cL_law 581 = .ok (.aload_n 2, 1) := by decide +kernel
theorem dL_law_582 : decode cL_law 582 = .ok (.invokevirtual 75, 3) := by decide +kernel
theorem dL_law_585 : decode cL_law 585 = .ok (.pop, 1) := by decide +kernel
theorem dL_law_586 : decode cL_law 586 = .ok (.goto 667, 3) := by decide +kernel
theorem dL_law_589 : decode cL_law 589 = .ok (.aload_n 1, 1) := by decide +kernel
theorem dL_law_590 : decode cL_law 590 = .ok (.aload_n 0, 1) := by decide +kernel
theorem dL_law_591 : decode cL_law 591 = .ok (.iload 4, 2) := by decide +kernel
theorem dL_law_593 : decode cL_law 593 = .ok (.iconst 1, 1) := by decide +kernel
theorem dL_law_594 : decode cL_law 594 = .ok (.iadd, 1) := by decide +kernel
theorem dL_law_595 : decode cL_law 595 = .ok (.iaload, 1) := by decide +kernel
theorem dL_law_596 : decode cL_law 596 = .ok (.invokevirtual 76, 3) := by decide +kernel
theorem dL_law_599 : decode cL_law 599 = .ok (.pop, 1) := by decide +kernel
theorem dL_law_600 : decode cL_law 600 = .ok (.aload_n 2, 1) := by decide +kernel
theorem dL_law_601 : decode cL_law 601 = .ok (.aload_n 0, 1) := by decide +kernel
theorem dL_law_602 : decode cL_law 602 = .ok (.iload 4, 2) := by decide +kernel
theorem dL_law_604 : decode cL_law 604 = .ok (.iconst 1, 1) := by decide +kernel
theorem dL_law_605 : decode cL_law 605 = .ok (.iadd, 1) := by decide +kernel
theorem dL_law_606 : decode cL_law 606 = .ok (.iaload, 1) := by decide +kernel
theorem dL_law_607 : decode cL_law 607 = .ok (.invokevirtual 79, 3) := by decide +kernel
theorem dL_law_610 : decode cL_law 610 = .ok (.pop, 1) := by decide +kernel
theorem dL_law_611 : decode cL_law 611 = .ok (.goto 642, 3) := by decide +kernel
theorem dL_law_614 : decode cL_law 614 = .ok (.aload_n 1, 1) := by decide +kernel
theorem dL_law_615 : decode cL_law 615 = .ok (.aload_n 0, 1) := by decide +kernel
theorem dL_law_616 : decode cL_law 616 = .ok (.iload 4, 2) := by decide +kernel
theorem dL_law_618 : decode cL_law 618 = .ok (.iconst 1, 1) := by decide +kernel
theorem dL_law_619 : decode cL_law 619 = .ok (.iadd, 1) := by decide +kernel
theorem dL_law_620 : decode cL_law 620 = .ok (.iaload, 1) := by decide +kernel
theorem dL_law_621 : decode cL_law 621 = .ok (.invokevirtual 80, 3) := by decide +kernel
theorem dL_law_624 : decode cL_law 624 = .ok (.pop, 1) := by decide +kernel
theorem dL_law_625 : decode cL_law 625 = .ok (.aload_n 2, 1) := by decide +kernel
theorem dL_law_626 : decode cL_law 626 = .ok (.aload_n 0, 1) := by decide +kernel
theorem dL_law_627 : decode cL_law 627 = .ok (.iload 4, 2) := by decide +kernel
theorem dL_law_629 : decode cL_law 629 = .ok (.iconst 1, 1) := by decide +kernel
theorem dL_law_630 : decode cL_law 630 = .ok (.iadd, 1) := by decide +kernel
theorem dL_law_631 : decode cL_law 631 = .ok (.iaload, 1) := by decide +kernel
theorem dL_law_632 : decode cL_law 632 = .ok (.invokevirtual 83, 3) := by decide +kernel
theorem dL_law_635 : decode cL_law 635 = .ok (.pop, 1) := by decide +kernel
theorem dL_law_636 : decode cL_law 636 = .ok (.goto 617, 3) := by decide +kernel
theorem dL_law_639 : decode cL_law 639 = .ok (.aload_n 1, 1) := by decide +kernel
theorem dL_law_640 : decode cL_law 640 = .ok (.invokevirtual 84, 3) := by decide +kernel
theorem dL_law_643 : decode cL_law 643 = .ok (.pop, 1) := by decide +kernel
theorem dL_law_644 : decode cL_law 644 = .ok (.aload_n 2, 1) := by decide +kernel
theorem dL_law_645 : decode cL_law 645 = .ok (.invokevirtual 87, 3) := by decide +kernel
theorem dL_law_648 : decode cL_law 648 = .ok (.pop, 1) := by decide +kernel
theorem dL_law_649 : decode cL_law 649 = .ok (.goto 604, 3) := by decide +kernel
theorem dL_law_652 : decode cL_law 652 = .ok (.aload_n 1, 1) := by decide +kernel
theorem dL_law_653 : decode cL_law 653 = .ok (.invokevirtual 88, 3) := by decide +kernel
theorem dL_law_656 : decode cL_law 656 = .ok (.pop, 1) := by decide +kernel
theorem dL_law_657 : decode cL_law 657 = .ok (.aload_n 2, 1) := by decide +kernel
theorem dL_law_658 : decode cL_law 658 = .ok (.invokevirtual 91, 3) := by decide +kernel
theorem dL_law_661 : decode cL_law 661 = .ok (.pop, 1) := by decide +kernel
theorem dL_law_662 : decode cL_law 662 = .ok (.goto 591, 3) := by decide +kernel
theorem dL_law_665 : decode cL_law 665 = .ok (.aload_n 1, 1) := by decide +kernel
theorem dL_law_666 : decode cL_law 666 = .ok (.aload_n 0, 1) := by decide +kernel
theorem dL_law_667 : decode cL_law 667 = .ok (.iload 4, 2) := by decide +kernel
theorem dL_law_669 : decode cL_law 669 = .ok (.iconst 1, 1) := by decide +kernel
theorem dL_law_670 : decode cL_law 670 = .ok (.iadd, 1) := by decide +kernel
theorem dL_law_671 : decode cL_law 671 = .ok (.iaload, 1) := by decide +kernel
theorem dL_law_672 : decode cL_law 672 = .ok (.invokevirtual 92, 3) := by decide +kernel
theorem dL_law_675 : decode cL_law 675 = .ok (.pop, 1) := by decide +kernel
theorem dL_law_676 : decode cL_law 676 = .ok (.aload_n 2, 1) := by decide +kernel
theorem dL_law_677 : decode cL_law 677 = .ok (.aload_n 0, 1) := by decide +kernel
theorem dL_law_678 : decode cL_law 678 = .ok (.iload 4, 2) := by decide +kernel
theorem dL_law_680 : decode cL_law 680 = .ok (.iconst 1, 1) := by decide +kernel
theorem dL_law_681 : decode cL_law 681 = .ok (.iadd, 1) := by decide +kernel
theorem dL_law_682 : decode cL_law 682 = .ok (.iaload, 1) := by decide +kernel
theorem dL_law_683 : decode cL_law 683 = .ok (.invokevirtual 95, 3) := by decide +kernel
theorem dL_law_686 : decode cL_law 686 = .ok (.pop, 1) := by decide +kernel
theorem dL_law_687 : decode cL_law 687 = .ok (.goto 566, 3) := by decide +kernel
theorem dL_law_690 : decode cL_law 690 = .ok (.aload_n 1, 1) := by decide +kernel
theorem dL_law_691 : decode cL_law 691 = .ok (.aload_n 0, 1) := by decide +kernel
theorem dL_law_692 : decode cL_law 692 = .ok (.iload 4, 2) := by decide +kernel
theorem dL_law_694 : decode cL_law 694 = .ok (.iconst 1, 1) := by decide +kernel
theorem dL_law_695 : decode cL_law 695 = .ok (.iadd, 1) := by decide +kernel
theorem dL_law_696 : decode cL_law 696 = .ok (.iaload, 1) := by decide +kernel
theorem dL_law_697 : decode cL_law 697 = .ok (.invokevirtual 96, 3) := by decide +kernel
theorem dL_law_700 : decode cL_law 700 = .ok (.pop, 1) := by decide +kernel
theorem dL_law_701 : decode cL_law 701 = .ok (.aload_n 2, 1) := by decide +kernel
theorem dL_law_702 : decode cL_law 702 = .ok (.aload_n 0, 1) := by decide +kernel
theorem dL_law_703 : decode cL_law 703 = .ok (.iload 4, 2) := by decide +kernel
theorem dL_law_705 : decode cL_law 705 = .ok (.iconst 1, 1) := by decide +kernel
theorem dL_law_706 : decode cL_law 706 = .ok (.iadd, 1) := by decide +kernel
theorem dL_law_707 : decode cL_law 707 = .ok (.iaload, 1) := by decide +kernel
theorem dL_law_708 : decode cL_law 708 = .ok (.invokevirtual 99, 3) := by decide +kernel
theorem dL_law_711 : decode cL_law 711 = .ok (.pop, 1) := by decide +kernel
theorem dL_law_712 : decode cL_law 712 = .ok (.goto 541, 3) := by decide +kernel
theorem dL_law_715 : decode cL_law 715 = .ok (.aload_n 1, 1) := by decide +kernel
theorem dL_law_716 : decode cL_law 716 = .ok (.aload_n 0, 1) := by decide +kernel
theorem dL_law_717 : decode cL_law 717 = .ok (.iload 4, 2) := by decide +kernel
theorem dL_law_719 : decode cL_law 719 = .ok (.iconst 1, 1) := by decide +kernel
theorem dL_law_720 : decode cL_law 720 = .ok (.iadd, 1) := by decide +kernel
theorem dL_law_721 : decode cL_law 721 = .ok (.iaload, 1) := by decide +kernel
theorem dL_law_722 : decode cL_law 722 = .ok (.aload_n 0, 1) := by decide +kernel
theorem dL_law_723 : decode cL_law 723 = .ok (.iload 4, 2) := by decide +kernel
theorem dL_law_725 : decode cL_law 725 = .ok (.iconst 2, 1) := by decide +kernel
theorem dL_law_726 : decode cL_law 726 = .ok (.iadd, 1) := by decide +kernel
theorem dL_law_727 : decode cL_law 727 = .ok (.iaload, 1) := by decide +kernel
theorem dL_law_728 : decode cL_law 728 = .ok (.aload_n 0, 1) := by decide +kernel
theorem dL_law_729 : decode cL_law 729 = .ok (.iload 4, 2) := by decide +kernel
theorem dL_law_731 : decode cL_law 731 = .ok (.iconst 3, 1) := by decide +kernel
theorem dL_law_732 : decode cL_law 732 = .ok (.iadd, 1) := by decide +kernel
theorem dL_law_733 : decode cL_law 733 = .ok (.iaload, 1) := by decide +kernel
theorem dL_law_734 : decode cL_law 734 = .ok (.invokevirtual 100, 3) := by decide +kernel
theorem dL_law_737 : decode cL_law 737 = .ok (.pop, 1) := by decide +kernel
theorem dL_law_738 : decode cL_law 738 = .ok (.aload_n 2, 1) := by decide +kernel
theorem dL_law_739 : decode cL_law 739 = .ok (.aload_n 0, 1) := by decide +kernel
theorem dL_law_740 : decode cL_law 740 = .ok (.iload 4, 2) := by decide +kernel
theorem dL_law_742 : decode cL_law 742 = .ok (.iconst 1, 1) := by decide +kernel
theorem dL_law_743 : decode cL_law 743 = .ok (.iadd, 1) := by decide +kernel
theorem dL_law_744 : decode cL_law 744 = .ok (.iaload, 1) := by decide +kernel
theorem dL_law_745 : decode cL_law 745 = .ok (.aload_n 0, 1) := by decide +kernel
theorem dL_law_746 : decode cL_law 746 = .ok (.iload 4, 2) := by decide +kernel
theorem dL_law_748 : decode cL_law 748 = .ok (.iconst 2, 1) := by decide +kernel
theorem dL_law_749 : decode cL_law 749 = .ok (.iadd, 1) := by decide +kernel
theorem dL_law_750 : decode cL_law 750 = .ok (.iaload, 1) := by decide +kernel
theorem dL_law_751 : decode cL_law 751 = .ok (.aload_n 0, 1) := by decide +kernel
theorem dL_law_752 : decode cL_law 752 = .ok (.iload 4, 2) := by decide +kernel
theorem dL_law_754 : decode cL_law 754 = .ok (.iconst 3, 1) := by decide +kernel
theorem dL_law_755 : decode cL_law 755 = .ok (.iadd, 1) := by decide +kernel
theorem dL_law_756 : decode cL_law 756 = .ok (.iaload, 1) := by decide +kernel
theorem dL_law_757 : decode cL_law 757 = .ok (.invokevirtual 104, 3) := by decide +kernel
theorem dL_law_760 : decode cL_law 760 = .ok (.pop, 1) := by decide +kernel
theorem dL_law_761 : decode cL_law 761 = .ok (.goto 492, 3) := by decide +kernel
theorem dL_law_764 : decode cL_law 764 = .ok (.aload_n 1, 1) := by decide +kernel
theorem dL_law_765 : decode cL_law 765 = .ok (.aload_n 0, 1) := by decide +kernel
theorem dL_law_766 : decode cL_law 766 = .ok (.iload 4, 2) := by decide +kernel
theorem dL_law_768 : decode cL_law 768 = .ok (.iconst 1, 1) := by decide +kernel
theorem dL_law_769 : decode cL_law 769 = .ok (.iadd, 1) := by decide +kernel
theorem dL_law_770 : decode cL_law 770 = .ok (.iaload, 1) := by decide +kernel
theorem dL_law_771 : decode cL_law 771 = .ok (.aload_n 0, 1) := by decide +kernel
theorem dL_law_772 : decode cL_law 772 = .ok (.iload 4, 2) := by decide +kernel
theorem dL_law_774 : decode cL_law 774 = .ok (.iconst 2, 1) := by decide +kernel
theorem dL_law_775 : decode cL_law 775 = .ok (.iadd, 1) := by decide +kernel
theorem dL_law_776 : decode cL_law 776 = .ok (.iaload, 1) := by decide +kernel
theorem dL_law_777 : decode cL_law 777 = .ok (.aload_n 0, 1) := by decide +kernel
theorem dL_law_778 : decode cL_law 778 = .ok (.iload 4, 2) := by decide +kernel
theorem dL_law_780 : decode cL_law 780 = .ok (.iconst 3, 1) := by decide +kernel
theorem dL_law_781 : decode cL_law 781 = .ok (.iadd, 1) := by decide +kernel
theorem dL_law_782 : decode cL_law 782 = .ok (.iaload, 1) := by decide +kernel
theorem dL_law_783 : decode cL_law 783 = .ok (.aload_n 0, 1) := by decide +kernel
theorem dL_law_784 : decode cL_law 784 = .ok (.iload 4, 2) := by decide +kernel
theorem dL_law_786 : decode cL_law 786 = .ok (.iconst 4, 1) := by decide +kernel
theorem dL_law_787 : decode cL_law 787 = .ok (.iadd, 1) := by decide +kernel
theorem dL_law_788 : decode cL_law 788 = .ok (.iaload, 1) := by decide +kernel
theorem dL_law_789 : decode cL_law 789 = .ok (.aload_n 0, 1) := by decide +kernel
theorem dL_law_790 : decode cL_law 790 = .ok (.iload 4, 2) := by decide +kernel
theorem dL_law_792 : decode cL_law 792 = .ok (.iconst 5, 1) := by decide +kernel
theorem dL_law_793 : decode cL_law 793 = .ok (.iadd, 1) := by decide +kernel
theorem dL_law_794 : decode cL_law 794 = .ok (.iaload, 1) := by decide +kernel
theorem dL_law_795 : decode cL_law 795 = .ok (.ifCond .eq 7, 3) := by decide +kernel
theorem dL_law_798 : decode cL_law 798 = .ok (.iconst 1, 1) := by decide +kernel
theorem dL_law_799 : decode cL_law 799 = .ok (.goto 4, 3) := by decide +kernel
theorem dL_law_802 : decode cL_law 802 = .ok (.iconst 0, 1) := by decide +kernel
theorem dL_law_803 : decode cL_law 803 = .ok (.invokevirtual 105, 3) := by decide +kernel
theorem dL_law_806 : decode cL_law 806 = .ok (.pop, 1) := by decide +kernel
theorem dL_law_807 : decode cL_law 807 = .ok (.aload_n 2, 1) := by decide +kernel
theorem dL_law_808 : decode cL_law 808 = .ok (.aload_n 0, 1) := by decide +kernel
theorem dL_law_809 : decode cL_law 809 = .ok (.iload 4, 2) := by decide +kernel
theorem dL_law_811 : decode cL_law 811 = .ok (.iconst 1, 1) := by decide +kernel
theorem dL_law_812 : decode cL_law 812 = .ok (.iadd, 1) := by decide +kernel
theorem dL_law_813 : decode cL_law 813 = .ok (.iaload, 1) := by decide +kernel
theorem dL_law_814 : decode cL_law 814 = .ok (.aload_n 0, 1) := by decide +kernel
theorem dL_law_815 : decode cL_law 815 = .ok (.iload 4, 2) := by decide +kernel
theorem dL_law_817 : decode cL_law 817 = .ok (.iconst 2, 1) := by decide +kernel
theorem dL_law_818 : decode cL_law 818 = .ok (.iadd, 1) := by decide +kernel
theorem dL_law_819 : decode cL_law 819 = .ok (.iaload, 1) := by decide +kernel
theorem dL_law_820 : decode cL_law 820 = .ok (.aload_n 0, 1) := by decide +kernel
theorem dL_law_821 : decode cL_law 821 = .ok (.iload 4, 2) := by decide +kernel
theorem dL_law_823 : decode cL_law 823 = .ok (.iconst 3, 1) := by decide +kernel
theorem dL_law_824 : decode cL_law 824 = .ok (.iadd, 1) := by decide +kernel
theorem dL_law_825 : decode cL_law 825 = .ok (.iaload, 1) := by decide +kernel
theorem dL_law_826 : decode cL_law 826 = .ok (.aload_n 0, 1) := by decide +kernel
theorem dL_law_827 : decode cL_law 827 = .ok (.iload 4, 2) := by decide +kernel
theorem dL_law_829 : decode cL_law 829 = .ok (.iconst 4, 1) := by decide +kernel
theorem dL_law_830 : decode cL_law 830 = .ok (.iadd, 1) := by decide +kernel
theorem dL_law_831 : decode cL_law 831 = .ok (.iaload, 1) := by decide +kernel
theorem dL_law_832 : decode cL_law 832 = .ok (.aload_n 0, 1) := by decide +kernel
theorem dL_law_833 : decode cL_law 833 = .ok (.iload 4, 2) := by decide +kernel
theorem dL_law_835 : decode cL_law 835 = .ok (.iconst 5, 1) := by decide +kernel
theorem dL_law_836 : decode cL_law 836 = .ok (.iadd, 1) := by decide +kernel
theorem dL_law_837 : decode cL_law 837 = .ok (.iaload, 1) := by decide +kernel
theorem dL_law_838 : decode cL_law 838 = .ok (.ifCond .eq 7, 3) := by decide +kernel
theorem dL_law_841 : decode cL_law 841 = .ok (.iconst 1, 1) := by decide +kernel
theorem dL_law_842 : decode cL_law 842 = .ok (.goto 4, 3) := by decide +kernel
theorem dL_law_845 : decode cL_law 845 = .ok (.iconst 0, 1) := by decide +kernel
theorem dL_law_846 : decode cL_law 846 = .ok (.invokevirtual 109, 3) := by decide +kernel
theorem dL_law_849 : decode cL_law 849 = .ok (.pop, 1) := by decide +kernel
theorem dL_law_850 : decode cL_law 850 = .ok (.goto 403, 3) := by decide +kernel
theorem dL_law_853 : decode cL_law 853 = .ok (.aload_n 1, 1) := by decide +kernel
theorem dL_law_854 : decode cL_law 854 = .ok (.aload_n 0, 1) := by decide +kernel
theorem dL_law_855 : decode cL_law 855 = .ok (.iload 4, 2) := by decide +kernel
theorem dL_law_857 : decode cL_law 857 = .ok (.iconst 1, 1) := by decide +kernel
theorem dL_law_858 : decode cL_law 858 = .ok (.iadd, 1) := by decide +kernel
theorem dL_law_859 : decode cL_law 859 = .ok (.iaload, 1) := by decide +kernel
theorem dL_law_860 : decode cL_law 860 = .ok (.aload_n 0, 1) := by decide +kernel
theorem dL_law_861 : decode cL_law 861 = .ok (.iload 4, 2) := by decide +kernel
theorem dL_law_863 : decode cL_law 863 = .ok (.iconst 2, 1) := by decide +kernel
theorem dL_law_864 : decode cL_law 864 = .ok (.iadd, 1) := by decide +kernel
theorem dL_law_865 : decode cL_law 865 = .ok (.iaload, 1) := by decide +kernel
theorem dL_law_866 : decode cL_law 866 = .ok (.invokevirtual 110, 3) := by decide +kernel
theorem dL_law_869 : decode cL_law 869 = .ok (.pop, 1) := by decide +kernel
theorem dL_law_870 : decode cL_law 870 = .ok (.aload_n 2, 1) := by decide +kernel
theorem dL_law_871 : decode cL_law 871 = .ok (.aload_n 0, 1) := by decide +kernel
theorem dL_law_872 : decode cL_law 872 = .ok (.iload 4, 2) := by decide +kernel
theorem dL_law_874 : decode cL_law 874 = .ok (.iconst 1, 1) := by decide +kernel
theorem dL_law_875 : decode cL_law 875 = .ok (.iadd, 1) := by decide +kernel
theorem dL_law_876 : decode cL_law 876 = .ok (.iaload, 1) := by decide +kernel
theorem dL_law_877 : decode cL_law 877 = .ok (.aload_n 0, 1) := by decide +kernel
theorem dL_law_878 : decode cL_law 878 = .ok (.iload 4, 2) := by decide +kernel
theorem dL_law_880 : decode cL_law 880 = .ok (.iconst 2, 1) := by decide +kernel
theorem dL_law_881 : decode cL_law 881 = .ok (.iadd, 1) := by decide +kernel
theorem dL_law_882 : decode cL_law 882 = .ok (.iaload, 1) := by decide +kernel
theorem dL_law_883 : decode cL_law 883 = .ok (.invokevirtual 113, 3) := by decide +kernel
theorem dL_law_886 : decode cL_law 886 = .ok (.pop, 1) := by decide +kernel
theorem dL_law_887 : decode cL_law 887 = .ok (.goto 366, 3) := by decide +kernel
theorem dL_law_890 : decode cL_law 890 = .ok (.aload_n 1, 1) := by decide +kernel
theorem dL_law_891 : decode cL_law 891 = .ok (.aload_n 0, 1) := by decide +kernel
theorem dL_law_892 : decode cL_law 892 = .ok (.iload 4, 2) := by decide +kernel
theorem dL_law_894 : decode cL_law 894 = .ok (.iconst 1, 1) := by decide +kernel
theorem dL_law_895 : decode cL_law 895 = .ok (.iadd, 1) := by decide +kernel
theorem dL_law_896 : decode cL_law 896 = .ok (.iaload, 1) := by decide +kernel
theorem dL_law_897 : decode cL_law 897 = .ok (.invokevirtual 114, 3) := by decide +kernel
theorem dL_law_900 : decode cL_law 900 = .ok (.pop, 1) := by decide +kernel
theorem dL_law_901 : decode cL_law 901 = .ok (.aload_n 2, 1) := by decide +kernel
theorem dL_law_902 : decode cL_law 902 = .ok (.aload_n 0, 1) := by decide +kernel
theorem dL_law_903 : decode cL_law 903 = .ok (.iload 4, 2) := by decide +kernel
theorem dL_law_905 : decode cL_law 905 = .ok (.iconst 1, 1) := by decide +kernel
theorem dL_law_906 : decode cL_law 906 = .ok (.iadd, 1) := by decide +kernel
theorem dL_law_907 : decode cL_law 907 = .ok (.iaload, 1) := by decide +kernel
theorem dL_law_908 : decode cL_law 908 = .ok (.invokevirtual 117, 3) := by decide +kernel
theorem dL_law_911 : decode cL_law 911 = .ok (.pop, 1) := by decide +kernel
theorem dL_law_912 : decode cL_law 912 = .ok (.goto 341, 3) := by decide +kernel
theorem dL_law_915 : decode cL_law 915 = .ok (.aload_n 1, 1) := by decide +kernel
theorem dL_law_916 : decode cL_law 916 = .ok (.aload_n 0, 1) := by decide +kernel
theorem dL_law_917 : decode cL_law 917 = .ok (.iload 4, 2) := by decide +kernel
theorem dL_law_919 : decode cL_law 919 = .ok (.iconst 1, 1) := by decide +kernel
theorem dL_law_920 : decode cL_law 920 = .ok (.iadd, 1) := by decide +kernel
theorem dL_law_921 : decode cL_law 921 = .ok (.iaload, 1) := by decide +kernel
theorem dL_law_922 : decode cL_law 922 = .ok (.invokevirtual 118, 3) := by decide +kernel
theorem dL_law_925 : decode cL_law 925 = .ok (.pop, 1) := by decide +kernel
theorem dL_law_926 : decode cL_law 926 = .ok (.aload_n 2, 1) := by decide +kernel
theorem dL_law_927 : decode cL_law 927 = .ok (.aload_n 0, 1) := by decide +kernel
theorem dL_law_928 : decode cL_law 928 = .ok (.iload 4, 2) := by decide +kernel
theorem dL_law_930 : decode cL_law 930 = .ok (.iconst 1, 1) := by decide +kernel
theorem dL_law_931 : decode cL_law 931 = .ok (.iadd, 1) := by decide +kernel
theorem dL_law_932 : decode cL_law 932 = .ok (.iaload, 1) := by decide +kernel
theorem dL_law_933 : decode cL_law 933 = .ok (.invokevirtual 121, 3) := by decide +kernel
theorem dL_law_936 : decode cL_law 936 = .ok (.pop, 1) := by decide +kernel
theorem dL_law_937 : decode cL_law 937 = .ok (.goto 316, 3) := by decide +kernel
theorem dL_law_940 : decode cL_law 940 = .ok (.aload_n 1, 1) := by decide +kernel
theorem dL_law_941 : decode cL_law 941 = .ok (.aload_n 0, 1) := by decide +kernel
theorem dL_law_942 : decode cL_law 942 = .ok (.iload 4, 2) := by decide +kernel
theorem dL_law_944 : decode cL_law 944 = .ok (.iconst 1, 1) := by decide +kernel
theorem dL_law_945 : decode cL_law 945 = .ok (.iadd, 1) := by decide +kernel
theorem dL_law_946 : decode cL_law 946 = .ok (.iaload, 1) := by decide +kernel
theorem dL_law_947 : decode cL_law 947 = .ok (.aload_n 0, 1) := by decide +kernel
theorem dL_law_948 : decode cL_law 948 = .ok (.iload 4, 2) := by decide +kernel
theorem dL_law_950 : decode cL_law 950 = .ok (.iconst 2, 1) := by decide +kernel
theorem dL_law_951 : decode cL_law 951 = .ok (.iadd, 1) := by decide +kernel
theorem dL_law_952 : decode cL_law 952 = .ok (.iaload, 1) := by decide +kernel
theorem dL_law_953 : decode cL_law 953 = .ok (.invokevirtual 122, 3) := by decide +kernel
theorem dL_law_956 : decode cL_law 956 = .ok (.pop, 1) := by decide +kernel
theorem dL_law_957 : decode cL_law 957 = .ok (.aload_n 2, 1) := by decide +kernel
theorem dL_law_958 : decode cL_law 958 = .ok (.aload_n 0, 1) := by decide +kernel
theorem dL_law_959 : decode cL_law 959 = .ok (.iload 4, 2) := by decide +kernel
theorem dL_law_961 : decode cL_law 961 = .ok (.iconst 1, 1) := by decide +kernel
theorem dL_law_962 : decode cL_law 962 = .ok (.iadd, 1) := by decide +kernel
theorem dL_law_963 : decode cL_law 963 = .ok (.iaload, 1) := by decide +kernel
theorem dL_law_964 : decode cL_law 964 = .ok (.aload_n 0, 1) := by decide +kernel
theorem dL_law_965 : decode cL_law 965 = .ok (.iload 4, 2) := by decide +kernel
theorem dL_law_967 : decode cL_law 967 = .ok (.iconst 2, 1) := by decide +kernel
theorem dL_law_968 : decode cL_law 968 = .ok (.iadd, 1) := by decide +kernel
theorem dL_law_969 : decode cL_law 969 = .ok (.iaload, 1) := by decide +kernel
theorem dL_law_970 : decode cL_law 970 = .ok (.invokevirtual 125, 3) := by decide +kernel
theorem dL_law_973 : decode cL_law 973 = .ok (.pop, 1) := by decide +kernel
theorem dL_law_974 : decode cL_law 974 = .ok (.goto 279, 3) := by decide +kernel
theorem dL_law_977 : decode cL_law 977 = .ok (.aload_n 1, 1) := by decide +kernel
theorem dL_law_978 : decode cL_law 978 = .ok (.invokevirtual 126, 3) := by decide +kernel
theorem dL_law_981 : decode cL_law 981 = .ok (.pop, 1) := by decide +kernel
theorem dL_law_982 : decode cL_law 982 = .ok (.aload_n 2, 1) := by decide +kernel
theorem dL_law_983 : decode cL_law 983 = .ok (.invokevirtual 129, 3) := by decide +kernel
theorem dL_law_986 : decode cL_law 986 = .ok (.pop, 1) := by decide +kernel
theorem dL_law_987 : decode cL_law 987 = .ok (.goto 266, 3) := by decide +kernel
theorem dL_law_990 : decode cL_law 990 = .ok (.aload_n 1, 1) := by decide +kernel
theorem dL_law_991 : decode cL_law 991 = .ok (.aload_n 0, 1) := by decide +kernel
theorem dL_law_992 : decode cL_law 992 = .ok (.iload 4, 2) := by decide +kernel
theorem dL_law_994 : decode cL_law 994 = .ok (.iconst 1, 1) := by decide +kernel
theorem dL_law_995 : decode cL_law 995 = .ok (.iadd, 1) := by decide +kernel
theorem dL_law_996 : decode cL_law 996 = .ok (.iaload, 1) := by decide +kernel
theorem dL_law_997 : decode cL_law 997 = .ok (.aload_n 0, 1) := by decide +kernel
theorem dL_law_998 : decode cL_law 998 = .ok (.iload 4, 2) := by decide +kernel
theorem dL_law_1000 : decode cL_law 1000 = .ok (.iconst 2, 1) := by decide +kernel
theorem dL_law_1001 : decode cL_law 1001 = .ok (.iadd, 1) := by decide +kernel
theorem dL_law_1002 : decode cL_law 1002 = .ok (.iaload, 1) := by decide +kernel
theorem dL_law_1003 : decode cL_law 1003 = .ok (.invokevirtual 130, 3) := by decide +kernel
theorem dL_law_1006 : decode cL_law 1006 = .ok (.pop, 1) := by decide +kernel
theorem dL_law_1007 : decode cL_law 1007 = .ok (.aload_n 2, 1) := by decide +kernel
theorem dL_law_1008 : decode cL_law 1008 = .ok (.aload_n 0, 1) := by decide +kernel
theorem dL_law_1009 : decode cL_law 1009 = .ok (.iload 4, 2) := by decide +kernel
theorem dL_law_1011 : decode cL_law 1011 = .ok (.iconst 1, 1) := by decide +kernel
theorem dL_law_1012 : decode cL_law 1012 = .ok (.iadd, 1) := by decide +kernel
theorem dL_law_1013 : decode cL_law 1013 = .ok (.iaload, 1) := by decide +kernel
theorem dL_law_1014 : decode cL_law 1014 = .ok (.aload_n 0, 1) := by decide +kernel
theorem dL_law_1015 : decode cL_law 1015 = .ok (.iload 4, 2) := by decide +kernel
theorem dL_law_1017 : decode cL_law 1017 = .ok (.iconst 2, 1) := by decide +kernel
theorem dL_law_1018 : decode cL_law 1018 = .ok (.iadd, 1) := by decide +kernel
theorem dL_law_1019 : decode cL_law 1019 = .ok (.iaload, 1) := by decide +kernel
theorem dL_law_1020 : decode cL_law 1020 = .ok (.invokevirtual 133, 3) := by decide +kernel
theorem dL_law_1023 : decode cL_law 1023 = .ok (.pop, 1) := by decide +kernel
theorem dL_law_1024 : decode cL_law 1024 = .ok (.goto 229, 3) := by decide +kernel
theorem dL_law_1027 : decode cL_law 1027 = .ok (.aload_n 1, 1) := by decide +kernel
theorem dL_law_1028 : decode cL_law 1028 = .ok (.aload_n 0, 1) := by decide +kernel
theorem dL_law_1029 : decode cL_law 1029 = .ok (.iload 4, 2) := by decide +kernel
theorem dL_law_1031 : decode cL_law 1031 = .ok (.iconst 1, 1) := by decide +kernel
theorem dL_law_1032 : decode cL_law 1032 = .ok (.iadd, 1) := by decide +kernel
theorem dL_law_1033 : decode cL_law 1033 = .ok (.iaload, 1) := by decide +kernel
theorem dL_law_1034 : decode cL_law 1034 = .ok (.aload_n 0, 1) := by decide +kernel
theorem dL_law_1035 : decode cL_law 1035 = .ok (.iload 4, 2) := by decide +kernel
theorem dL_law_1037 : decode cL_law 1037 = .ok (.iconst 2, 1) := by decide +kernel
theorem dL_law_1038 : decode cL_law 1038 = .ok (.iadd, 1) := by decide +kernel
theorem dL_law_1039 : decode cL_law 1039 = .ok (.iaload, 1) := by decide +kernel
theorem dL_law_1040 : decode cL_law 1040 = .ok (.invokevirtual 134, 3) := by decide +kernel
theorem dL_law_1043 : decode cL_law 1043 = .ok (.pop, 1) := by decide +kernel
theorem dL_law_1044 : decode cL_law 1044 = .ok (.aload_n 2, 1) := by decide +kernel
theorem dL_law_1045 : decode cL_law 1045 = .ok (.aload_n 0, 1) := by decide +kernel
theorem dL_law_1046 : decode cL_law 1046 = .ok (.iload 4, 2) := by decide +kernel
theorem dL_law_1048 : decode cL_law 1048 = .ok (.iconst 1, 1) := by decide +kernel
theorem dL_law_1049 : decode cL_law 1049 = .ok (.iadd, 1) := by decide +kernel
theorem dL_law_1050 : decode cL_law 1050 = .ok (.iaload, 1) := by decide +kernel
theorem dL_law_1051 : decode cL_law 1051 = .ok (.aload_n 0, 1) := by decide +kernel
theorem dL_law_1052 : decode cL_law 1052 = .ok (.iload 4, 2) := by decide +kernel
theorem dL_law_1054 : decode cL_law 1054 = .ok (.iconst 2, 1) := by decide +kernel
theorem dL_law_1055 : decode cL_law 1055 = .ok (.iadd, 1) := by decide +kernel
theorem dL_law_1056 : decode cL_law 1056 = .ok (.iaload, 1) := by decide +kernel
theorem dL_law_1057 : decode cL_law 1057 = .ok (.invokevirtual 137, 3) := by decide +kernel
theorem dL_law_1060 : decode cL_law 1060 = .ok (.pop, 1) := by decide +kernel
theorem dL_law_1061 : decode cL_law 1061 = .ok (.goto 192, 3) := by decide +kernel
theorem dL_law_1064 : decode cL_law 1064 = .ok (.aload_n 1, 1) := by decide +kernel
theorem dL_law_1065 : decode cL_law 1065 = .ok (.aload_n 0, 1) := by decide +kernel
theorem dL_law_1066 : decode cL_law 1066 = .ok (.iload 4, 2) := by decide +kernel
theorem dL_law_1068 : decode cL_law 1068 = .ok (.iconst 1, 1) := by decide +kernel
theorem dL_law_1069 : decode cL_law 1069 = .ok (.iadd, 1) := by decide +kernel
theorem dL_law_1070 : decode cL_law 1070 = .ok (.iaload, 1) := by decide +kernel
theorem dL_law_1071 : decode cL_law 1071 = .ok (.aload_n 0, 1) := by decide +kernel
theorem dL_law_1072 : decode cL_law 1072 = .ok (.iload 4, 2) := by decide +kernel
theorem dL_law_1074 : decode cL_law 1074 = .ok (.iconst 2, 1) := by decide +kernel
theorem dL_law_1075 : decode cL_law 1075 = .ok (.iadd, 1) := by decide +kernel
theorem dL_law_1076 : decode cL_law 1076 = .ok (.iaload, 1) := by decide +kernel
theorem dL_law_1077 : decode cL_law 1077 = .ok (.invokevirtual 138, 3) := by decide +kernel
theorem dL_law_1080 : decode cL_law 1080 = .ok (.pop, 1) := by decide +kernel
theorem dL_law_1081 : decode cL_law 1081 = .ok (.aload_n 2, 1) := by decide +kernel
theorem dL_law_1082 : decode cL_law 1082 = .ok (.aload_n 0, 1) := by decide +kernel
theorem dL_law_1083 : decode cL_law 1083 = .ok (.iload 4, 2) := by decide +kernel
theorem dL_law_1085 : decode cL_law 1085 = .ok (.iconst 1, 1) := by decide +kernel
theorem dL_law_1086 : decode cL_law 1086 = .ok (.iadd, 1) := by decide +kernel
theorem dL_law_1087 : decode cL_law 1087 = .ok (.iaload, 1) := by decide +kernel
theorem dL_law_1088 : decode cL_law 1088 = .ok (.aload_n 0, 1) := by decide +kernel
theorem dL_law_1089 : decode cL_law 1089 = .ok (.iload 4, 2) := by decide +kernel
theorem dL_law_1091 : decode cL_law 1091 = .ok (.iconst 2, 1) := by decide +kernel
theorem dL_law_1092 : decode cL_law 1092 = .ok (.iadd, 1) := by decide +kernel
theorem dL_law_1093 : decode cL_law 1093 = .ok (.iaload, 1) := by decide +kernel
theorem dL_law_1094 : decode cL_law 1094 = .ok (.invokevirtual 141, 3) := by decide +kernel
theorem dL_law_1097 : decode cL_law 1097 = .ok (.pop, 1) := by decide +kernel
theorem dL_law_1098 : decode cL_law 1098 = .ok (.goto 155, 3) := by decide +kernel
theorem dL_law_1101 : decode cL_law 1101 = .ok (.aload_n 1, 1) := by decide +kernel
theorem dL_law_1102 : decode cL_law 1102 = .ok (.aload_n 0, 1) := by decide +kernel
theorem dL_law_1103 : decode cL_law 1103 = .ok (.iload 4, 2) := by decide +kernel
theorem dL_law_1105 : decode cL_law 1105 = .ok (.iconst 1, 1) := by decide +kernel
theorem dL_law_1106 : decode cL_law 1106 = .ok (.iadd, 1) := by decide +kernel
theorem dL_law_1107 : decode cL_law 1107 = .ok (.iaload, 1) := by decide +kernel
theorem dL_law_1108 : decode cL_law 1108 = .ok (.aload_n 0, 1) := by decide +kernel
theorem dL_law_1109 : decode cL_law 1109 = .ok (.iload 4, 2) := by decide +kernel
theorem dL_law_1111 : decode cL_law 1111 = .ok (.iconst 2, 1) := by decide +kernel
theorem dL_law_1112 : decode cL_law 1112 = .ok (.iadd, 1) := by decide +kernel
theorem dL_law_1113 : decode cL_law 1113 = .ok (.iaload, 1) := by decide +kernel
theorem dL_law_1114 : decode cL_law 1114 = .ok (.aload_n 0, 1) := by decide +kernel
theorem dL_law_1115 : decode cL_law 1115 = .ok (.iload 4, 2) := by decide +kernel
theorem dL_law_1117 : decode cL_law 1117 = .ok (.iconst 3, 1) := by decide +kernel
theorem dL_law_1118 : decode cL_law 1118 = .ok (.iadd, 1) := by decide +kernel
theorem dL_law_1119 : decode cL_law 1119 = .ok (.iaload, 1) := by decide +kernel
theorem dL_law_1120 : decode cL_law 1120 = .ok (.invokevirtual 142, 3) := by decide +kernel
theorem dL_law_1123 : decode cL_law 1123 = .ok (.pop, 1) := by decide +kernel
theorem dL_law_1124 : decode cL_law 1124 = .ok (.aload_n 2, 1) := by decide +kernel
theorem dL_law_1125 : decode cL_law 1125 = .ok (.aload_n 0, 1) := by decide +kernel
theorem dL_law_1126 : decode cL_law 1126 = .ok (.iload 4, 2) := by decide +kernel
theorem dL_law_1128 : decode cL_law 1128 = .ok (.iconst 1, 1) := by decide +kernel
theorem dL_law_1129 : decode cL_law 1129 = .ok (.iadd, 1) := by decide +kernel
theorem dL_law_1130 : decode cL_law 1130 = .ok (.iaload, 1) := by decide +kernel
theorem dL_law_1131 : decode cL_law 1131 = .ok (.aload_n 0, 1) := by decide +kernel
theorem dL_law_1132 : decode cL_law 1132 = .ok (.iload 4, 2) := by decide +kernel
theorem dL_law_1134 : decode cL_law 1134 = .ok (.iconst 2, 1) := by decide +kernel
theorem dL_law_1135 : decode cL_law 1135 = .ok (.iadd, 1) := by decide +kernel
theorem dL_law_1136 : decode cL_law 1136 = .ok (.iaload, 1) := by decide +kernel
theorem dL_law_1137 : decode cL_law 1137 = .ok (.aload_n 0, 1) := by decide +kernel
theorem dL_law_1138 : decode cL_law 1138 = .ok (.iload 4, 2) := by decide +kernel
theorem dL_law_1140 : decode cL_law 1140 = .ok (.iconst 3, 1) := by decide +kernel
theorem dL_law_1141 : decode cL_law 1141 = .ok (.iadd, 1) := by decide +kernel
theorem dL_law_1142 : decode cL_law 1142 = .ok (.iaload, 1) := by decide +kernel
theorem dL_law_1143 : decode cL_law 1143 = .ok (.invokevirtual 145, 3) := by decide +kernel
theorem dL_law_1146 : decode cL_law 1146 = .ok (.pop, 1) := by decide +kernel
theorem dL_law_1147 : decode cL_law 1147 = .ok (.goto 106, 3) := by decide +kernel
theorem dL_law_1150 : decode cL_law 1150 = .ok (.aload_n 1, 1) := by decide +kernel
theorem dL_law_1151 : decode cL_law 1151 = .ok (.aload_n 0, 1) := by decide +kernel
theorem dL_law_1152 : decode cL_law 1152 = .ok (.iload 4, 2) := by decide +kernel
theorem dL_law_1154 : decode cL_law 1154 = .ok (.iconst 1, 1) := by decide +kernel
theorem dL_law_1155 : decode cL_law 1155 = .ok (.iadd, 1) := by decide +kernel
theorem dL_law_1156 : decode cL_law 1156 = .ok (.iaload, 1) := by decide +kernel
theorem dL_law_1157 : decode cL_law 1157 = .ok (.invokevirtual 146, 3) := by decide +kernel
theorem dL_law_1160 : decode cL_law 1160 = .ok (.aload_n 2, 1) := by decide +kernel
theorem dL_law_1161 : decode cL_law 1161 = .ok (.aload_n 0, 1) := by decide +kernel
theorem dL_law_1162 : decode cL_law 1162 = .ok (.iload 4, 2) := by decide +kernel
theorem dL_law_1164 : decode cL_law 1164 = .ok (.iconst 1, 1) := by decide +kernel
theorem dL_law_1165 : decode cL_law 1165 = .ok (.iadd, 1) := by decide +kernel
theorem dL_law_1166 : decode cL_law 1166 = .ok (.iaload, 1) := by decide +kernel
theorem dL_law_1167 : decode cL_law 1167 = .ok (.invokevirtual 149, 3) := by decide +kernel
theorem dL_law_1170 : decode cL_law 1170 = .ok (.if_icmp .eq 83, 3) := by decide +kernel
theorem dL_law_1175 : decode cL_law 1175 = .ok (.aload_n 1, 1) := by decide +kernel
theorem dL_law_1176 : decode cL_law 1176 = .ok (.aload_n 0, 1) := by decide +kernel
theorem dL_law_1177 : decode cL_law 1177 = .ok (.iload 4, 2) := by decide +kernel
theorem dL_law_1179 : decode cL_law 1179 = .ok (.iconst 1, 1) := by decide +kernel
theorem dL_law_1180 : decode cL_law 1180 = .ok (.iadd, 1) := by decide +kernel
theorem dL_law_1181 : decode cL_law 1181 = .ok (.iaload, 1) := by decide +kernel
theorem dL_law_1182 : decode cL_law 1182 = .ok (.aload_n 0, 1) := by decide +kernel
theorem dL_law_1183 : decode cL_law 1183 = .ok (.iload 4, 2) := by decide +kernel
theorem dL_law_1185 : decode cL_law 1185 = .ok (.iconst 2, 1) := by decide +kernel
theorem dL_law_1186 : decode cL_law 1186 = .ok (.iadd, 1) := by decide +kernel
theorem dL_law_1187 : decode cL_law 1187 = .ok (.iaload, 1) := by decide +kernel
theorem dL_law_1188 : decode cL_law 1188 = .ok (.aload_n 3, 1) := by decide +kernel
theorem dL_law_1189 : decode cL_law 1189 = .ok (.invokestatic 150, 3) := by decide +kernel
theorem dL_law_1192 : decode cL_law 1192 = .ok (.istore 5, 2) := by decide +kernel
theorem dL_law_1194 : decode cL_law 1194 = .ok (.aload_n 2, 1) := by decide +kernel
theorem dL_law_1195 : decode cL_law 1195 = .ok (.aload_n 0, 1) := by decide +kernel
theorem dL_law_1196 : decode cL_law 1196 = .ok (.iload 4, 2) := by decide +kernel
theorem dL_law_1198 : decode cL_law 1198 = .ok (.iconst 1, 1) := by decide +kernel
theorem dL_law_1199 : decode cL_law 1199 = .ok (.iadd, 1) := by decide +kernel
theorem dL_law_1200 : decode cL_law 1200 = .ok (.iaload, 1) := by decide +kernel
theorem dL_law_1201 : decode cL_law 1201 = .ok (.aload_n 0, 1) := by decide +kernel
theorem dL_law_1202 : decode cL_law 1202 = .ok (.iload 4, 2) := by decide +kernel
theorem dL_law_1204 : decode cL_law 1204 = .ok (.iconst 2, 1) := by decide +kernel
theorem dL_law_1205 : decode cL_law 1205 = .ok (.iadd, 1) := by decide +kernel
theorem dL_law_1206 : decode cL_law 1206 = .ok (.iaload, 1) := by decide +kernel
theorem dL_law_1207 : decode cL_law 1207 = .ok (.invokevirtual 155, 3) := by decide +kernel
theorem dL_law_1210 : decode cL_law 1210 = .ok (.istore 6, 2) := by decide +kernel
theorem dL_law_1212 : decode cL_law 1212 = .ok (.goto 41, 3) := by decide +kernel
theorem dL_law_1215 : decode cL_law 1215 = .ok (.aload_n 1, 1) := by decide +kernel
theorem dL_law_1216 : decode cL_law 1216 = .ok (.aload_n 0, 1) := by decide +kernel
theorem dL_law_1217 : decode cL_law 1217 = .ok (.iload 4, 2) := by decide +kernel
theorem dL_law_1219 : decode cL_law 1219 = .ok (.iconst 1, 1) := by decide +kernel
theorem dL_law_1220 : decode cL_law 1220 = .ok (.iadd, 1) := by decide +kernel
theorem dL_law_1221 : decode cL_law 1221 = .ok (.iaload, 1) := by decide +kernel
theorem dL_law_1222 : decode cL_law 1222 = .ok (.invokevirtual 156, 3) := by decide +kernel
theorem dL_law_1225 : decode cL_law 1225 = .ok (.pop, 1) := by decide +kernel
theorem dL_law_1226 : decode cL_law 1226 = .ok (.aload_n 2, 1) := by decide +kernel
theorem dL_law_1227 : decode cL_law 1227 = .ok (.aload_n 0, 1) := by decide +kernel
theorem dL_law_1228 : decode cL_law 1228 = .ok (.iload 4, 2) := by decide +kernel
theorem dL_law_1230 : decode cL_law 1230 = .ok (.iconst 1, 1) := by decide +kernel
theorem dL_law_1231 : decode cL_law 1231 = .ok (.iadd, 1) := by decide +kernel
theorem dL_law_1232 : decode cL_law 1232 = .ok (.iaload, 1) := by decide +kernel
theorem dL_law_1233 : decode cL_law 1233 = .ok (.invokevirtual 159, 3) := by decide +kernel
theorem dL_law_1236 : decode cL_law 1236 = .ok (.pop, 1) := by decide +kernel
theorem dL_law_1237 : decode cL_law 1237 = .ok (.goto 16, 3) := by decide +kernel
theorem dL_law_1240 : decode cL_law 1240 = .ok (.aload_n 1, 1) := by decide +kernel
theorem dL_law_1241 : decode cL_law 1241 = .ok (.invokevirtual 160, 3) := by decide +kernel
theorem dL_law_1244 : decode cL_law 1244 = .ok (.pop, 1) := by decide +kernel
theorem dL_law_1245 : decode cL_law 1245 = .ok (.aload_n 2, 1) := by decide +kernel
theorem dL_law_1246 : decode cL_law 1246 = .ok (.invokevirtual 163, 3) := by decide +kernel
theorem dL_law_1249 : decode cL_law 1249 = .ok (.pop, 1) := by decide +kernel
theorem dL_law_1250 : decode cL_law 1250 = .ok (.goto 3, 3) := by decide +kernel
theorem dL_law_1253 : decode cL_law 1253 = .ok (.iinc 4 6, 3) := by decide +kernel
theorem dL_law_1256 : decode cL_law 1256 = .ok (.goto (-1233), 3) := by decide +kernel
theorem dL_law_1259 : decode cL_law 1259 = .ok (.iconst 1, 1) := by decide +kernel
theorem dL_law_1260 : decode cL_law 1260 = .ok (.ireturn, 1) := by decide +kernel

