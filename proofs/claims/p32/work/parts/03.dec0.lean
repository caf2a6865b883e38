theorem dX0_init_0 : decode cX0_init 0 = .ok (.aload_n 0, 1) := by decide +kernel
theorem dX0_init_1 : decode cX0_init 1 = .ok (.invokespecial 3, 3) := by decide +kernel
theorem dX0_init_4 : decode cX0_init 4 = .ok (.aload_n 0, 1) := by decide +kernel
theorem dX0_init_5 : decode cX0_init 5 = .ok (.sipush 300, 3) := by decide +kernel
theorem dX0_init_8 : decode cX0_init 8 = .ok (.newarray .int, 2) := by decide +kernel
theorem dX0_init_10 : decode cX0_init 10 = .ok (.putfield 9, 3) := by decide +kernel
theorem dX0_init_13 : decode cX0_init 13 = .ok (.aload_n 0, 1) := by decide +kernel
theorem dX0_init_14 : decode cX0_init 14 = .ok (.sipush 300, 3) := by decide +kernel
theorem dX0_init_17 : decode cX0_init 17 = .ok (.newarray .int, 2) := by decide +kernel
theorem dX0_init_19 : decode cX0_init 19 = .ok (.putfield 15, 3) := by decide +kernel
theorem dX0_init_22 : decode cX0_init 22 = .ok (.aload_n 0, 1) := by decide +kernel
theorem dX0_init_23 : decode cX0_init 23 = .ok (.sipush 300, 3) := by decide +kernel
theorem dX0_init_26 : decode cX0_init 26 = .ok (.newarray .int, 2) := by decide +kernel
theorem dX0_init_28 : decode cX0_init 28 = .ok (.putfield 18, 3) := by decide +kernel
theorem dX0_init_31 : decode cX0_init 31 = .ok (.aload_n 0, 1) := by decide +kernel
theorem dX0_init_32 : decode cX0_init 32 = .ok (.bipush 60, 2) := by decide +kernel
theorem dX0_init_34 : decode cX0_init 34 = .ok (.newarray .int, 2) := by decide +kernel
theorem dX0_init_36 : decode cX0_init 36 = .ok (.putfield 21, 3) := by decide +kernel
theorem dX0_init_39 : decode cX0_init 39 = .ok (.aload_n 0, 1) := by decide +kernel
theorem dX0_init_40 : decode cX0_init 40 = .ok (.bipush 60, 2) := by decide +kernel
theorem dX0_init_42 : decode cX0_init 42 = .ok (.newarray .int, 2) := by decide +kernel
theorem dX0_init_44 : decode cX0_init 44 = .ok (.putfield 24, 3) := by decide +kernel
theorem dX0_init_47 : decode cX0_init 47 = .ok (.return_, 1) := by decide +kernel
theorem dX0_follow_0 : decode cX0_follow 0 = .ok (.aload_n 0, 1) := by decide +kernel
theorem dX0_follow_1 : decode cX0_follow 1 = .ok (.aload_n 1, 1) := by decide +kernel
theorem dX0_follow_2 : decode cX0_follow 2 = .ok (.aload_n 2, 1) := by decide +kernel
theorem dX0_follow_3 : decode cX0_follow 3 = .ok (.aload_n 3, 1) := by decide +kernel
theorem dX0_follow_4 : decode cX0_follow 4 = .ok (.iload 4, 2) := by decide +kernel
theorem dX0_follow_6 : decode cX0_follow 6 = .ok (.invokevirtual 27, 3) := by decide +kernel
theorem dX0_follow_9 : decode cX0_follow 9 = .ok (.aload_n 0, 1) := by decide +kernel
theorem dX0_follow_10 : decode cX0_follow 10 = .ok (.bipush (-2), 2) := by decide +kernel
theorem dX0_follow_12 : decode cX0_follow 12 = .ok (.putfield 31, 3) := by decide +kernel
theorem dX0_follow_15 : decode cX0_follow 15 = .ok (.aload_n 0, 1) := by decide +kernel
theorem dX0_follow_16 : decode cX0_follow 16 = .ok (.iconst 0, 1) := by decide +kernel
theorem dX0_follow_17 : decode cX0_follow 17 = .ok (.putfield 35, 3) := by decide +kernel
theorem dX0_follow_20 : decode cX0_follow 20 = .ok (.iconst 0, 1) := by decide +kernel
theorem dX0_follow_21 : decode cX0_follow 21 = .ok (.istore 5, 2) := by decide +kernel
theorem dX0_follow_23 : decode cX0_follow 23 = .ok (.iload 5, 2) := by decide +kernel
theorem dX0_follow_25 : decode cX0_follow 25 = .ok (.bipush 60, 2) := by decide +kernel
theorem dX0_follow_27 : decode cX0_follow 27 = .ok (.if_icmp .ge 136, 3) := by decide +kernel
theorem dX0_follow_30 : decode cX0_follow 30 = .ok (.aload_n 0, 1) := by decide +kernel
theorem dX0_follow_31 : decode cX0_follow 31 = .ok (.getfield 21, 3) := by decide +kernel
theorem dX0_follow_34 : decode cX0_follow 34 = .ok (.iload 5, 2) := by decide +kernel
theorem dX0_follow_36 : decode cX0_follow 36 = .ok (.iconst 0, 1) := by decide +kernel
theorem dX0_follow_37 : decode cX0_follow 37 = .ok (.iastore, 1) := by decide +kernel
theorem dX0_follow_38 : decode cX0_follow 38 = .ok (.aload_n 0, 1) := by decide +kernel
theorem dX0_follow_39 : decode cX0_follow 39 = .ok (.getfield 31, 3) := by decide +kernel
theorem dX0_follow_42 : decode cX0_follow 42 = .ok (.bipush (-2), 2) := by decide +kernel
theorem dX0_follow_44 : decode cX0_follow 44 = .ok (.if_icmp .ne 7, 3) := by decide +kernel
theorem dX0_follow_47 : decode cX0_follow 47 = .ok (.iconst 1, 1) := by decide +kernel
theorem dX0_follow_48 : decode cX0_follow 48 = .ok (.goto 4, 3) := by decide +kernel
theorem dX0_follow_51 : decode cX0_follow 51 = .ok (.iconst 0, 1) := by decide +kernel
theorem dX0_follow_52 : decode cX0_follow 52 = .ok (.istore 6, 2) := by decide +kernel
theorem dX0_follow_54 : decode cX0_follow 54 = .ok (.iconst 0, 1) := by decide +kernel
theorem dX0_follow_55 : decode cX0_follow 55 = .ok (.istore 7, 2) := by decide +kernel
theorem dX0_follow_57 : decode cX0_follow 57 = .ok (.iload 7, 2) := by decide +kernel
theorem dX0_follow_59 : decode cX0_follow 59 = .ok (.aload_n 1, 1) := by decide +kernel
theorem dX0_follow_60 : decode cX0_follow 60 = .ok (.getfield 38, 3) := by decide +kernel
theorem dX0_follow_63 : decode cX0_follow 63 = .ok (.if_icmp .ge 66, 3) := by decide +kernel
theorem dX0_follow_66 : decode cX0_follow 66 = .ok (.iload 6, 2) := by decide +kernel
theorem dX0_follow_68 : decode cX0_follow 68 = .ok (.ifCond .eq 16, 3) := by decide +kernel
theorem dX0_follow_71 : decode cX0_follow 71 = .ok (.aload_n 0, 1) := by decide +kernel
theorem dX0_follow_72 : decode cX0_follow 72 = .ok (.aload_n 1, 1) := by decide +kernel
theorem dX0_follow_73 : decode cX0_follow 73 = .ok (.aload_n 2, 1) := by decide +kernel
theorem dX0_follow_74 : decode cX0_follow 74 = .ok (.iload 7, 2) := by decide +kernel
theorem dX0_follow_76 : decode cX0_follow 76 = .ok (.iload 5, 2) := by decide +kernel
theorem dX0_follow_78 : decode cX0_follow 78 = .ok (.invokevirtual 43, 3) := by decide +kernel
theorem dX0_follow_81 : decode cX0_follow 81 = .ok (.goto 4, 3) := by decide +kernel
theorem dX0_follow_84 : decode cX0_follow 84 = .ok (.iconst 0, 1) := by decide +kernel
theorem dX0_follow_85 : decode cX0_follow 85 = .ok (.istore 8, 2) := by decide +kernel
theorem dX0_follow_87 : decode cX0_follow 87 = .ok (.aload_n 0, 1) := by decide +kernel
theorem dX0_follow_88 : decode cX0_follow 88 = .ok (.iload 8, 2) := by decide +kernel
theorem dX0_follow_90 : decode cX0_follow 90 = .ok (.aload_n 2, 1) := by decide +kernel
theorem dX0_follow_91 : decode cX0_follow 91 = .ok (.iload 7, 2) := by decide +kernel
theorem dX0_follow_93 : decode cX0_follow 93 = .ok (.iload 5, 2) := by decide +kernel
theorem dX0_follow_95 : decode cX0_follow 95 = .ok (.invokevirtual 47, 3) := by decide +kernel
theorem dX0_follow_98 : decode cX0_follow 98 = .ok (.aload_n 0, 1) := by decide +kernel
theorem dX0_follow_99 : decode cX0_follow 99 = .ok (.getfield 21, 3) := by decide +kernel
theorem dX0_follow_102 : decode cX0_follow 102 = .ok (.iload 5, 2) := by decide +kernel
theorem dX0_follow_104 : decode cX0_follow 104 = .ok (.dup2, 1) := by decide +kernel
theorem dX0_follow_105 : decode cX0_follow 105 = .ok (.iaload, 1) := by decide +kernel
theorem dX0_follow_106 : decode cX0_follow 106 = .ok (.iload 8, 2) := by decide +kernel
theorem dX0_follow_108 : decode cX0_follow 108 = .ok (.iadd, 1) := by decide +kernel
theorem dX0_follow_109 : decode cX0_follow 109 = .ok (.iastore, 1) := by decide +kernel
theorem dX0_follow_110 : decode cX0_follow 110 = .ok (.iload 8, 2) := by decide +kernel
theorem dX0_follow_112 : decode cX0_follow 112 = .ok (.bipush 100, 2) := by decide +kernel
theorem dX0_follow_114 : decode cX0_follow 114 = .ok (.if_icmp .lt 9, 3) := by decide +kernel
theorem dX0_follow_117 : decode cX0_follow 117 = .ok (.aload_n 0, 1) := by decide +kernel
theorem dX0_follow_118 : decode cX0_follow 118 = .ok (.iload 5, 2) := by decide +kernel
theorem dX0_follow_120 : decode cX0_follow 120 = .ok (.putfield 31, 3) := by decide +kernel
theorem dX0_follow_123 : decode cX0_follow 123 = .ok (.iinc 7 1, 3) := by decide +kernel
theorem dX0_follow_126 : decode cX0_follow 126 = .ok (.goto (-69), 3) := by decide +kernel
theorem dX0_follow_129 : decode cX0_follow 129 = .ok (.aload_n 0, 1) := by decide +kernel
theorem dX0_follow_130 : decode cX0_follow 130 = .ok (.getfield 31, 3) := by decide +kernel
theorem dX0_follow_133 : decode cX0_follow 133 = .ok (.iload 5, 2) := by decide +kernel
theorem dX0_follow_135 : decode cX0_follow 135 = .ok (.if_icmp .ne 22, 3) := by decide +kernel
theorem dX0_follow_138 : decode cX0_follow 138 = .ok (.aload_n 0, 1) := by decide +kernel
theorem dX0_follow_139 : decode cX0_follow 139 = .ok (.aload_n 0, 1) := by decide +kernel
theorem dX0_follow_140 : decode cX0_follow 140 = .ok (.getfield 21, 3) := by decide +kernel
theorem dX0_follow_143 : decode cX0_follow 143 = .ok (.iload 5, 2) := by decide +kernel
theorem dX0_follow_145 : decode cX0_follow 145 = .ok (.iaload, 1) := by decide +kernel
theorem dX0_follow_146 : decode cX0_follow 146 = .ok (.aload_n 3, 1) := by decide +kernel
theorem dX0_follow_147 : decode cX0_follow 147 = .ok (.iload 5, 2) := by decide +kernel
theorem dX0_follow_149 : decode cX0_follow 149 = .ok (.iaload, 1) := by decide +kernel
theorem dX0_follow_150 : decode cX0_follow 150 = .ok (.imul, 1) := by decide +kernel
theorem dX0_follow_151 : decode cX0_follow 151 = .ok (.bipush 100, 2) := by decide +kernel
theorem dX0_follow_153 : decode cX0_follow 153 = .ok (.idiv, 1) := by decide +kernel
theorem dX0_follow_154 : decode cX0_follow 154 = .ok (.putfield 35, 3) := by decide +kernel
theorem dX0_follow_157 : decode cX0_follow 157 = .ok (.iinc 5 1, 3) := by decide +kernel
theorem dX0_follow_160 : decode cX0_follow 160 = .ok (.goto (-137), 3) := by decide +kernel
theorem dX0_follow_163 : decode cX0_follow 163 = .ok (.return_, 1) := by decide +kernel
theorem dX0_togetherAhead_0 : decode cX0_togetherAhead 0 = .ok (.iload_n 1, 1) := by decide +kernel
theorem dX0_togetherAhead_1 : decode cX0_togetherAhead 1 = .ok (.ifCond .le 14, 3) := by decide +kernel
theorem dX0_togetherAhead_4 : decode cX0_togetherAhead 4 = .ok (.aload_n 0, 1) := by decide +kernel
theorem dX0_togetherAhead_5 : decode cX0_togetherAhead 5 = .ok (.getfield 21, 3) := by decide +kernel
theorem dX0_togetherAhead_8 : decode cX0_togetherAhead 8 = .ok (.iload_n 1, 1) := by decide +kernel
theorem dX0_togetherAhead_9 : decode cX0_togetherAhead 9 = .ok (.iconst 1, 1) := by decide +kernel
theorem dX0_togetherAhead_10 : decode cX0_togetherAhead 10 = .ok (.isub, 1) := by decide +kernel
theorem dX0_togetherAhead_11 : decode cX0_togetherAhead 11 = .ok (.iaload, 1) := by decide +kernel
theorem dX0_togetherAhead_12 : decode cX0_togetherAhead 12 = .ok (.goto 4, 3) := by decide +kernel
theorem dX0_togetherAhead_15 : decode cX0_togetherAhead 15 = .ok (.iconst 0, 1) := by decide +kernel
theorem dX0_togetherAhead_16 : decode cX0_togetherAhead 16 = .ok (.ireturn, 1) := by decide +kernel
theorem dX0_heldFrom_0 : decode cX0_heldFrom 0 = .ok (.iload_n 1, 1) := by decide +kernel
theorem dX0_heldFrom_1 : decode cX0_heldFrom 1 = .ok (.iconst 5, 1) := by decide +kernel
theorem dX0_heldFrom_2 : decode cX0_heldFrom 2 = .ok (.iadd, 1) := by decide +kernel
theorem dX0_heldFrom_3 : decode cX0_heldFrom 3 = .ok (.bipush 59, 2) := by decide +kernel
theorem dX0_heldFrom_5 : decode cX0_heldFrom 5 = .ok (.invokestatic 51, 3) := by decide +kernel
theorem dX0_heldFrom_8 : decode cX0_heldFrom 8 = .ok (.istore_n 2, 1) := by decide +kernel
theorem dX0_heldFrom_9 : decode cX0_heldFrom 9 = .ok (.aload_n 0, 1) := by decide +kernel
theorem dX0_heldFrom_10 : decode cX0_heldFrom 10 = .ok (.getfield 31, 3) := by decide +kernel
theorem dX0_heldFrom_13 : decode cX0_heldFrom 13 = .ok (.bipush (-2), 2) := by decide +kernel
theorem dX0_heldFrom_15 : decode cX0_heldFrom 15 = .ok (.if_icmp .eq 13, 3) := by decide +kernel
theorem dX0_heldFrom_18 : decode cX0_heldFrom 18 = .ok (.aload_n 0, 1) := by decide +kernel
theorem dX0_heldFrom_19 : decode cX0_heldFrom 19 = .ok (.getfield 31, 3) := by decide +kernel
theorem dX0_heldFrom_22 : decode cX0_heldFrom 22 = .ok (.iload_n 2, 1) := by decide +kernel
theorem dX0_heldFrom_23 : decode cX0_heldFrom 23 = .ok (.if_icmp .gt 5, 3) := by decide +kernel
theorem dX0_heldFrom_26 : decode cX0_heldFrom 26 = .ok (.iconst 0, 1) := by decide +kernel
theorem dX0_heldFrom_27 : decode cX0_heldFrom 27 = .ok (.ireturn, 1) := by decide +kernel
theorem dX0_heldFrom_28 : decode cX0_heldFrom 28 = .ok (.aload_n 0, 1) := by decide +kernel
theorem dX0_heldFrom_29 : decode cX0_heldFrom 29 = .ok (.getfield 21, 3) := by decide +kernel
theorem dX0_heldFrom_32 : decode cX0_heldFrom 32 = .ok (.iload_n 2, 1) := by decide +kernel
theorem dX0_heldFrom_33 : decode cX0_heldFrom 33 = .ok (.iaload, 1) := by decide +kernel
theorem dX0_heldFrom_34 : decode cX0_heldFrom 34 = .ok (.aload_n 0, 1) := by decide +kernel
theorem dX0_heldFrom_35 : decode cX0_heldFrom 35 = .ok (.iload_n 1, 1) := by decide +kernel
theorem dX0_heldFrom_36 : decode cX0_heldFrom 36 = .ok (.invokevirtual 57, 3) := by decide +kernel
theorem dX0_heldFrom_39 : decode cX0_heldFrom 39 = .ok (.if_icmp .ge 7, 3) := by decide +kernel
theorem dX0_heldFrom_42 : decode cX0_heldFrom 42 = .ok (.iconst 1, 1) := by decide +kernel
theorem dX0_heldFrom_43 : decode cX0_heldFrom 43 = .ok (.goto 4, 3) := by decide +kernel
theorem dX0_heldFrom_46 : decode cX0_heldFrom 46 = .ok (.iconst 0, 1) := by decide +kernel
theorem dX0_heldFrom_47 : decode cX0_heldFrom 47 = .ok (.ireturn, 1) := by decide +kernel
theorem dX0_speedOf_0 : decode cX0_speedOf 0 = .ok (.iload_n 3, 1) := by decide +kernel
theorem dX0_speedOf_1 : decode cX0_speedOf 1 = .ok (.iload 4, 2) := by decide +kernel
theorem dX0_speedOf_3 : decode cX0_speedOf 3 = .ok (.invokestatic 61, 3) := by decide +kernel
theorem dX0_speedOf_6 : decode cX0_speedOf 6 = .ok (.istore 5, 2) := by decide +kernel
theorem dX0_speedOf_8 : decode cX0_speedOf 8 = .ok (.iload 4, 2) := by decide +kernel
theorem dX0_speedOf_10 : decode cX0_speedOf 10 = .ok (.ifCond .le 15, 3) := by decide +kernel
theorem dX0_speedOf_13 : decode cX0_speedOf 13 = .ok (.aload_n 0, 1) := by decide +kernel
theorem dX0_speedOf_14 : decode cX0_speedOf 14 = .ok (.getfield 18, 3) := by decide +kernel
theorem dX0_speedOf_17 : decode cX0_speedOf 17 = .ok (.iload 5, 2) := by decide +kernel
theorem dX0_speedOf_19 : decode cX0_speedOf 19 = .ok (.iconst 1, 1) := by decide +kernel
theorem dX0_speedOf_20 : decode cX0_speedOf 20 = .ok (.isub, 1) := by decide +kernel
theorem dX0_speedOf_21 : decode cX0_speedOf 21 = .ok (.iaload, 1) := by decide +kernel
theorem dX0_speedOf_22 : decode cX0_speedOf 22 = .ok (.goto 4, 3) := by decide +kernel
theorem dX0_speedOf_25 : decode cX0_speedOf 25 = .ok (.iconst 0, 1) := by decide +kernel
theorem dX0_speedOf_26 : decode cX0_speedOf 26 = .ok (.istore 6, 2) := by decide +kernel
theorem dX0_speedOf_28 : decode cX0_speedOf 28 = .ok (.iconst 0, 1) := by decide +kernel
theorem dX0_speedOf_29 : decode cX0_speedOf 29 = .ok (.aload_n 1, 1) := by decide +kernel
theorem dX0_speedOf_30 : decode cX0_speedOf 30 = .ok (.getfield 64, 3) := by decide +kernel
theorem dX0_speedOf_33 : decode cX0_speedOf 33 = .ok (.iload_n 3, 1) := by decide +kernel
theorem dX0_speedOf_34 : decode cX0_speedOf 34 = .ok (.iaload, 1) := by decide +kernel
theorem dX0_speedOf_35 : decode cX0_speedOf 35 = .ok (.iload 6, 2) := by decide +kernel
theorem dX0_speedOf_37 : decode cX0_speedOf 37 = .ok (.isub, 1) := by decide +kernel
theorem dX0_speedOf_38 : decode cX0_speedOf 38 = .ok (.invokestatic 67, 3) := by decide +kernel
theorem dX0_speedOf_41 : decode cX0_speedOf 41 = .ok (.istore 7, 2) := by decide +kernel
theorem dX0_speedOf_43 : decode cX0_speedOf 43 = .ok (.aload_n 2, 1) := by decide +kernel
theorem dX0_speedOf_44 : decode cX0_speedOf 44 = .ok (.getfield 70, 3) := by decide +kernel
theorem dX0_speedOf_47 : decode cX0_speedOf 47 = .ok (.iconst 4, 1) := by decide +kernel
theorem dX0_speedOf_48 : decode cX0_speedOf 48 = .ok (.if_icmp .ne 27, 3) := by decide +kernel
theorem dX0_speedOf_51 : decode cX0_speedOf 51 = .ok (.iload 4, 2) := by decide +kernel
theorem dX0_speedOf_53 : decode cX0_speedOf 53 = .ok (.ifCond .le 22, 3) := by decide +kernel
theorem dX0_speedOf_56 : decode cX0_speedOf 56 = .ok (.aload_n 0, 1) := by decide +kernel
theorem dX0_speedOf_57 : decode cX0_speedOf 57 = .ok (.getfield 9, 3) := by decide +kernel
theorem dX0_speedOf_60 : decode cX0_speedOf 60 = .ok (.iload 5, 2) := by decide +kernel
theorem dX0_speedOf_62 : decode cX0_speedOf 62 = .ok (.iconst 1, 1) := by decide +kernel
theorem dX0_speedOf_63 : decode cX0_speedOf 63 = .ok (.isub, 1) := by decide +kernel
theorem dX0_speedOf_64 : decode cX0_speedOf 64 = .ok (.iaload, 1) := by decide +kernel
theorem dX0_speedOf_65 : decode cX0_speedOf 65 = .ok (.aload_n 2, 1) := by decide +kernel
theorem dX0_speedOf_66 : decode cX0_speedOf 66 = .ok (.getfield 75, 3) := by decide +kernel
theorem dX0_speedOf_69 : decode cX0_speedOf 69 = .ok (.if_icmp .lt 6, 3) := by decide +kernel
theorem dX0_speedOf_72 : decode cX0_speedOf 72 = .ok (.iconst 0, 1) := by decide +kernel
theorem dX0_speedOf_73 : decode cX0_speedOf 73 = .ok (.istore 7, 2) := by decide +kernel
theorem dX0_speedOf_75 : decode cX0_speedOf 75 = .ok (.iconst 0, 1) := by decide +kernel
theorem dX0_speedOf_76 : decode cX0_speedOf 76 = .ok (.aload_n 1, 1) := by decide +kernel
theorem dX0_speedOf_77 : decode cX0_speedOf 77 = .ok (.getfield 78, 3) := by decide +kernel
theorem dX0_speedOf_80 : decode cX0_speedOf 80 = .ok (.iload_n 3, 1) := by decide +kernel
theorem dX0_speedOf_81 : decode cX0_speedOf 81 = .ok (.iaload, 1) := by decide +kernel
theorem dX0_speedOf_82 : decode cX0_speedOf 82 = .ok (.aload_n 0, 1) := by decide +kernel
theorem dX0_speedOf_83 : decode cX0_speedOf 83 = .ok (.getfield 24, 3) := by decide +kernel
theorem dX0_speedOf_86 : decode cX0_speedOf 86 = .ok (.iload 4, 2) := by decide +kernel
theorem dX0_speedOf_88 : decode cX0_speedOf 88 = .ok (.iaload, 1) := by decide +kernel
theorem dX0_speedOf_89 : decode cX0_speedOf 89 = .ok (.iadd, 1) := by decide +kernel
theorem dX0_speedOf_90 : decode cX0_speedOf 90 = .ok (.iload 7, 2) := by decide +kernel
theorem dX0_speedOf_92 : decode cX0_speedOf 92 = .ok (.isub, 1) := by decide +kernel
theorem dX0_speedOf_93 : decode cX0_speedOf 93 = .ok (.invokestatic 67, 3) := by decide +kernel
theorem dX0_speedOf_96 : decode cX0_speedOf 96 = .ok (.bipush 10, 2) := by decide +kernel
theorem dX0_speedOf_98 : decode cX0_speedOf 98 = .ok (.idiv, 1) := by decide +kernel
theorem dX0_speedOf_99 : decode cX0_speedOf 99 = .ok (.ireturn, 1) := by decide +kernel
theorem dX0_creepBy_0 : decode cX0_creepBy 0 = .ok (.iload_n 3, 1) := by decide +kernel
theorem dX0_creepBy_1 : decode cX0_creepBy 1 = .ok (.iload 4, 2) := by decide +kernel
theorem dX0_creepBy_3 : decode cX0_creepBy 3 = .ok (.invokestatic 61, 3) := by decide +kernel
theorem dX0_creepBy_6 : decode cX0_creepBy 6 = .ok (.istore 5, 2) := by decide +kernel
theorem dX0_creepBy_8 : decode cX0_creepBy 8 = .ok (.aload_n 0, 1) := by decide +kernel
theorem dX0_creepBy_9 : decode cX0_creepBy 9 = .ok (.getfield 9, 3) := by decide +kernel
theorem dX0_creepBy_12 : decode cX0_creepBy 12 = .ok (.iload 5, 2) := by decide +kernel
theorem dX0_creepBy_14 : decode cX0_creepBy 14 = .ok (.iload_n 1, 1) := by decide +kernel
theorem dX0_creepBy_15 : decode cX0_creepBy 15 = .ok (.iastore, 1) := by decide +kernel
theorem dX0_creepBy_16 : decode cX0_creepBy 16 = .ok (.aload_n 0, 1) := by decide +kernel
theorem dX0_creepBy_17 : decode cX0_creepBy 17 = .ok (.getfield 15, 3) := by decide +kernel
theorem dX0_creepBy_20 : decode cX0_creepBy 20 = .ok (.iload 5, 2) := by decide +kernel
theorem dX0_creepBy_22 : decode cX0_creepBy 22 = .ok (.iload 4, 2) := by decide +kernel
theorem dX0_creepBy_24 : decode cX0_creepBy 24 = .ok (.ifCond .le 15, 3) := by decide +kernel
theorem dX0_creepBy_27 : decode cX0_creepBy 27 = .ok (.aload_n 0, 1) := by decide +kernel
theorem dX0_creepBy_28 : decode cX0_creepBy 28 = .ok (.getfield 15, 3) := by decide +kernel
theorem dX0_creepBy_31 : decode cX0_creepBy 31 = .ok (.iload 5, 2) := by decide +kernel
theorem dX0_creepBy_33 : decode cX0_creepBy 33 = .ok (.iconst 1, 1) := by decide +kernel
theorem dX0_creepBy_34 : decode cX0_creepBy 34 = .ok (.isub, 1) := by decide +kernel
theorem dX0_creepBy_35 : decode cX0_creepBy 35 = .ok (.iaload, 1) := by decide +kernel
theorem dX0_creepBy_36 : decode cX0_creepBy 36 = .ok (.goto 4, 3) := by decide +kernel
theorem dX0_creepBy_39 : decode cX0_creepBy 39 = .ok (.iconst 0, 1) := by decide +kernel
theorem dX0_creepBy_40 : decode cX0_creepBy 40 = .ok (.iload_n 1, 1) := by decide +kernel
theorem dX0_creepBy_41 : decode cX0_creepBy 41 = .ok (.iadd, 1) := by decide +kernel
theorem dX0_creepBy_42 : decode cX0_creepBy 42 = .ok (.iastore, 1) := by decide +kernel
theorem dX0_creepBy_43 : decode cX0_creepBy 43 = .ok (.aload_n 2, 1) := by decide +kernel
theorem dX0_creepBy_44 : decode cX0_creepBy 44 = .ok (.getfield 70, 3) := by decide +kernel
theorem dX0_creepBy_47 : decode cX0_creepBy 47 = .ok (.iconst 3, 1) := by decide +kernel
theorem dX0_creepBy_48 : decode cX0_creepBy 48 = .ok (.if_icmp .ne 21, 3) := by decide +kernel
theorem dX0_creepBy_51 : decode cX0_creepBy 51 = .ok (.aload_n 0, 1) := by decide +kernel
theorem dX0_creepBy_52 : decode cX0_creepBy 52 = .ok (.getfield 15, 3) := by decide +kernel
theorem dX0_creepBy_55 : decode cX0_creepBy 55 = .ok (.iload 5, 2) := by decide +kernel
theorem dX0_creepBy_57 : decode cX0_creepBy 57 = .ok (.iaload, 1) := by decide +kernel
theorem dX0_creepBy_58 : decode cX0_creepBy 58 = .ok (.aload_n 2, 1) := by decide +kernel
theorem dX0_creepBy_59 : decode cX0_creepBy 59 = .ok (.getfield 75, 3) := by decide +kernel
theorem dX0_creepBy_62 : decode cX0_creepBy 62 = .ok (.if_icmp .lt 7, 3) := by decide +kernel
theorem dX0_creepBy_65 : decode cX0_creepBy 65 = .ok (.iconst 1, 1) := by decide +kernel
theorem dX0_creepBy_66 : decode cX0_creepBy 66 = .ok (.goto 4, 3) := by decide +kernel
theorem dX0_creepBy_69 : decode cX0_creepBy 69 = .ok (.iconst 0, 1) := by decide +kernel
theorem dX0_creepBy_70 : decode cX0_creepBy 70 = .ok (.istore 6, 2) := by decide +kernel
theorem dX0_creepBy_72 : decode cX0_creepBy 72 = .ok (.aload_n 0, 1) := by decide +kernel
theorem dX0_creepBy_73 : decode cX0_creepBy 73 = .ok (.getfield 18, 3) := by decide +kernel
theorem dX0_creepBy_76 : decode cX0_creepBy 76 = .ok (.iload 5, 2) := by decide +kernel
theorem dX0_creepBy_78 : decode cX0_creepBy 78 = .ok (.iload 4, 2) := by decide +kernel
theorem dX0_creepBy_80 : decode cX0_creepBy 80 = .ok (.ifCond .le 15, 3) := by decide +kernel
theorem dX0_creepBy_83 : decode cX0_creepBy 83 = .ok (.aload_n 0, 1) := by decide +kernel
theorem dX0_creepBy_84 : decode cX0_creepBy 84 = .ok (.getfield 18, 3) := by decide +kernel
theorem dX0_creepBy_87 : decode cX0_creepBy 87 = .ok (.iload 5, 2) := by decide +kernel
theorem dX0_creepBy_89 : decode cX0_creepBy 89 = .ok (.iconst 1, 1) := by decide +kernel
theorem dX0_creepBy_90 : decode cX0_creepBy 90 = .ok (.isub, 1) := by decide +kernel
theorem dX0_creepBy_91 : decode cX0_creepBy 91 = .ok (.iaload, 1) := by decide +kernel
theorem dX0_creepBy_92 : decode cX0_creepBy 92 = .ok (.goto 4, 3) := by decide +kernel
theorem dX0_creepBy_95 : decode cX0_creepBy 95 = .ok (.iconst 0, 1) := by decide +kernel
theorem dX0_creepBy_96 : decode cX0_creepBy 96 = .ok (.iload 6, 2) := by decide +kernel
theorem dX0_creepBy_98 : decode cX0_creepBy 98 = .ok (.ifCond .eq 7, 3) := by decide +kernel
theorem dX0_creepBy_101 : decode cX0_creepBy 101 = .ok (.iload_n 1, 1) := by decide +kernel
theorem dX0_creepBy_102 : decode cX0_creepBy 102 = .ok (.goto 4, 3) := by decide +kernel
theorem dX0_creepBy_105 : decode cX0_creepBy 105 = .ok (.iconst 0, 1) := by decide +kernel
theorem dX0_creepBy_106 : decode cX0_creepBy 106 = .ok (.iadd, 1) := by decide +kernel
theorem dX0_creepBy_107 : decode cX0_creepBy 107 = .ok (.iastore, 1) := by decide +kernel
theorem dX0_creepBy_108 : decode cX0_creepBy 108 = .ok (.return_, 1) := by decide +kernel
theorem dX0_fillAdds_0 : decode cX0_fillAdds 0 = .ok (.aload_n 2, 1) := by decide +kernel
theorem dX0_fillAdds_1 : decode cX0_fillAdds 1 = .ok (.getfield 70, 3) := by decide +kernel
theorem dX0_fillAdds_4 : decode cX0_fillAdds 4 = .ok (.tableswitch 95 1 5 #[36, 55, 95, 95, 71], 36) := by decide +kernel
theorem dX0_fillAdds_40 : decode cX0_fillAdds 40 = .ok (.aload_n 0, 1) := by decide +kernel
theorem dX0_fillAdds_41 : decode cX0_fillAdds 41 = .ok (.aload_n 2, 1) := by decide +kernel
theorem dX0_fillAdds_42 : decode cX0_fillAdds 42 = .ok (.getfield 81, 3) := by decide +kernel
theorem dX0_fillAdds_45 : decode cX0_fillAdds 45 = .ok (.aload_n 1, 1) := by decide +kernel
theorem dX0_fillAdds_46 : decode cX0_fillAdds 46 = .ok (.getfield 84, 3) := by decide +kernel
theorem dX0_fillAdds_49 : decode cX0_fillAdds 49 = .ok (.getfield 88, 3) := by decide +kernel
theorem dX0_fillAdds_52 : decode cX0_fillAdds 52 = .ok (.aload_n 3, 1) := by decide +kernel
theorem dX0_fillAdds_53 : decode cX0_fillAdds 53 = .ok (.invokevirtual 93, 3) := by decide +kernel
theorem dX0_fillAdds_56 : decode cX0_fillAdds 56 = .ok (.goto 78, 3) := by decide +kernel
theorem dX0_fillAdds_59 : decode cX0_fillAdds 59 = .ok (.aload_n 0, 1) := by decide +kernel
theorem dX0_fillAdds_60 : decode cX0_fillAdds 60 = .ok (.aload_n 2, 1) := by decide +kernel
theorem dX0_fillAdds_61 : decode cX0_fillAdds 61 = .ok (.getfield 81, 3) := by decide +kernel
theorem dX0_fillAdds_64 : decode cX0_fillAdds 64 = .ok (.aload_n 2, 1) := by decide +kernel
theorem dX0_fillAdds_65 : decode cX0_fillAdds 65 = .ok (.getfield 75, 3) := by decide +kernel
theorem dX0_fillAdds_68 : decode cX0_fillAdds 68 = .ok (.aload_n 3, 1) := by decide +kernel
theorem dX0_fillAdds_69 : decode cX0_fillAdds 69 = .ok (.invokevirtual 97, 3) := by decide +kernel
theorem dX0_fillAdds_72 : decode cX0_fillAdds 72 = .ok (.goto 62, 3) := by decide +kernel
theorem dX0_fillAdds_75 : decode cX0_fillAdds 75 = .ok (.aload_n 0, 1) := by decide +kernel
theorem dX0_fillAdds_76 : decode cX0_fillAdds 76 = .ok (.iload 4, 2) := by decide +kernel
theorem dX0_fillAdds_78 : decode cX0_fillAdds 78 = .ok (.ifCond .eq 10, 3) := by decide +kernel
theorem dX0_fillAdds_81 : decode cX0_fillAdds 81 = .ok (.aload_n 2, 1) := by decide +kernel
theorem dX0_fillAdds_82 : decode cX0_fillAdds 82 = .ok (.getfield 81, 3) := by decide +kernel
theorem dX0_fillAdds_85 : decode cX0_fillAdds 85 = .ok (.goto 4, 3) := by decide +kernel
theorem dX0_fillAdds_88 : decode cX0_fillAdds 88 = .ok (.iconst 0, 1) := by decide +kernel
theorem dX0_fillAdds_89 : decode cX0_fillAdds 89 = .ok (.aload_n 1, 1) := by decide +kernel
theorem dX0_fillAdds_90 : decode cX0_fillAdds 90 = .ok (.getfield 100, 3) := by decide +kernel
theorem dX0_fillAdds_93 : decode cX0_fillAdds 93 = .ok (.invokevirtual 103, 3) := by decide +kernel
theorem dX0_fillAdds_96 : decode cX0_fillAdds 96 = .ok (.goto 38, 3) := by decide +kernel
theorem dX0_fillAdds_99 : decode cX0_fillAdds 99 = .ok (.iconst 0, 1) := by decide +kernel
theorem dX0_fillAdds_100 : decode cX0_fillAdds 100 = .ok (.istore 5, 2) := by decide +kernel
theorem dX0_fillAdds_102 : decode cX0_fillAdds 102 = .ok (.iload 5, 2) := by decide +kernel
theorem dX0_fillAdds_104 : decode cX0_fillAdds 104 = .ok (.bipush 60, 2) := by decide +kernel
theorem dX0_fillAdds_106 : decode cX0_fillAdds 106 = .ok (.if_icmp .ge 28, 3) := by decide +kernel
theorem dX0_fillAdds_109 : decode cX0_fillAdds 109 = .ok (.aload_n 0, 1) := by decide +kernel
theorem dX0_fillAdds_110 : decode cX0_fillAdds 110 = .ok (.getfield 24, 3) := by decide +kernel
theorem dX0_fillAdds_113 : decode cX0_fillAdds 113 = .ok (.iload 5, 2) := by decide +kernel
theorem dX0_fillAdds_115 : decode cX0_fillAdds 115 = .ok (.aload_n 2, 1) := by decide +kernel
theorem dX0_fillAdds_116 : decode cX0_fillAdds 116 = .ok (.getfield 81, 3) := by decide +kernel
theorem dX0_fillAdds_119 : decode cX0_fillAdds 119 = .ok (.aload_n 3, 1) := by decide +kernel
theorem dX0_fillAdds_120 : decode cX0_fillAdds 120 = .ok (.iload 5, 2) := by decide +kernel
theorem dX0_fillAdds_122 : decode cX0_fillAdds 122 = .ok (.iaload, 1) := by decide +kernel
theorem dX0_fillAdds_123 : decode cX0_fillAdds 123 = .ok (.imul, 1) := by decide +kernel
theorem dX0_fillAdds_124 : decode cX0_fillAdds 124 = .ok (.bipush 100, 2) := by decide +kernel
theorem dX0_fillAdds_126 : decode cX0_fillAdds 126 = .ok (.idiv, 1) := by decide +kernel
theorem dX0_fillAdds_127 : decode cX0_fillAdds 127 = .ok (.iastore, 1) := by decide +kernel
theorem dX0_fillAdds_128 : decode cX0_fillAdds 128 = .ok (.iinc 5 1, 3) := by decide +kernel
theorem dX0_fillAdds_131 : decode cX0_fillAdds 131 = .ok (.goto (-29), 3) := by decide +kernel
theorem dX0_fillAdds_134 : decode cX0_fillAdds 134 = .ok (.return_, 1) := by decide +kernel
theorem dX0_fillByRise_0 : decode cX0_fillByRise 0 = .ok (.iload_n 2, 1) := by decide +kernel
theorem dX0_fillByRise_1 : decode cX0_fillByRise 1 = .ok (.istore 4, 2) := by decide +kernel
theorem dX0_fillByRise_3 : decode cX0_fillByRise 3 = .ok (.iconst 0, 1) := by decide +kernel
theorem dX0_fillByRise_4 : decode cX0_fillByRise 4 = .ok (.istore 5, 2) := by decide +kernel
theorem dX0_fillByRise_6 : decode cX0_fillByRise 6 = .ok (.iload 5, 2) := by decide +kernel
theorem dX0_fillByRise_8 : decode cX0_fillByRise 8 = .ok (.bipush 60, 2) := by decide +kernel
theorem dX0_fillByRise_10 : decode cX0_fillByRise 10 = .ok (.if_icmp .ge 43, 3) := by decide +kernel
theorem dX0_fillByRise_13 : decode cX0_fillByRise 13 = .ok (.aload_n 0, 1) := by decide +kernel
theorem dX0_fillByRise_14 : decode cX0_fillByRise 14 = .ok (.getfield 24, 3) := by decide +kernel
theorem dX0_fillByRise_17 : decode cX0_fillByRise 17 = .ok (.iload 5, 2) := by decide +kernel
theorem dX0_fillByRise_19 : decode cX0_fillByRise 19 = .ok (.iload_n 1, 1) := by decide +kernel
theorem dX0_fillByRise_20 : decode cX0_fillByRise 20 = .ok (.iconst 0, 1) := by decide +kernel
theorem dX0_fillByRise_21 : decode cX0_fillByRise 21 = .ok (.aload_n 3, 1) := by decide +kernel
theorem dX0_fillByRise_22 : decode cX0_fillByRise 22 = .ok (.iload 5, 2) := by decide +kernel
theorem dX0_fillByRise_24 : decode cX0_fillByRise 24 = .ok (.iaload, 1) := by decide +kernel
theorem dX0_fillByRise_25 : decode cX0_fillByRise 25 = .ok (.iload 4, 2) := by decide +kernel
theorem dX0_fillByRise_27 : decode cX0_fillByRise 27 = .ok (.isub, 1) := by decide +kernel
theorem dX0_fillByRise_28 : decode cX0_fillByRise 28 = .ok (.invokestatic 67, 3) := by decide +kernel
theorem dX0_fillByRise_31 : decode cX0_fillByRise 31 = .ok (.imul, 1) := by decide +kernel
theorem dX0_fillByRise_32 : decode cX0_fillByRise 32 = .ok (.bipush 100, 2) := by decide +kernel
theorem dX0_fillByRise_34 : decode cX0_fillByRise 34 = .ok (.idiv, 1) := by decide +kernel
theorem dX0_fillByRise_35 : decode cX0_fillByRise 35 = .ok (.iastore, 1) := by decide +kernel
theorem dX0_fillByRise_36 : decode cX0_fillByRise 36 = .ok (.iload 4, 2) := by decide +kernel
theorem dX0_fillByRise_38 : decode cX0_fillByRise 38 = .ok (.aload_n 3, 1) := by decide +kernel
theorem dX0_fillByRise_39 : decode cX0_fillByRise 39 = .ok (.iload 5, 2) := by decide +kernel
theorem dX0_fillByRise_41 : decode cX0_fillByRise 41 = .ok (.iaload, 1) := by decide +kernel
theorem dX0_fillByRise_42 : decode cX0_fillByRise 42 = .ok (.invokestatic 67, 3) := by decide +kernel
theorem dX0_fillByRise_45 : decode cX0_fillByRise 45 = .ok (.istore 4, 2) := by decide +kernel
theorem dX0_fillByRise_47 : decode cX0_fillByRise 47 = .ok (.iinc 5 1, 3) := by decide +kernel
theorem dX0_fillByRise_50 : decode cX0_fillByRise 50 = .ok (.goto (-44), 3) := by decide +kernel
theorem dX0_fillByRise_53 : decode cX0_fillByRise 53 = .ok (.return_, 1) := by decide +kernel
theorem dX0_fillByMean_0 : decode cX0_fillByMean 0 = .ok (.iconst 0, 1) := by decide +kernel
theorem dX0_fillByMean_1 : decode cX0_fillByMean 1 = .ok (.istore 4, 2) := by decide +kernel
theorem dX0_fillByMean_3 : decode cX0_fillByMean 3 = .ok (.iconst 0, 1) := by decide +kernel
theorem dX0_fillByMean_4 : decode cX0_fillByMean 4 = .ok (.istore 5, 2) := by decide +kernel
theorem dX0_fillByMean_6 : decode cX0_fillByMean 6 = .ok (.iload 5, 2) := by decide +kernel
theorem dX0_fillByMean_8 : decode cX0_fillByMean 8 = .ok (.bipush 60, 2) := by decide +kernel
theorem dX0_fillByMean_10 : decode cX0_fillByMean 10 = .ok (.if_icmp .ge 70, 3) := by decide +kernel
theorem dX0_fillByMean_13 : decode cX0_fillByMean 13 = .ok (.iload 4, 2) := by decide +kernel
theorem dX0_fillByMean_15 : decode cX0_fillByMean 15 = .ok (.aload_n 3, 1) := by decide +kernel
theorem dX0_fillByMean_16 : decode cX0_fillByMean 16 = .ok (.iload 5, 2) := by decide +kernel
theorem dX0_fillByMean_18 : decode cX0_fillByMean 18 = .ok (.iaload, 1) := by decide +kernel
theorem dX0_fillByMean_19 : decode cX0_fillByMean 19 = .ok (.iadd, 1) := by decide +kernel
theorem dX0_fillByMean_20 : decode cX0_fillByMean 20 = .ok (.istore 4, 2) := by decide +kernel
theorem dX0_fillByMean_22 : decode cX0_fillByMean 22 = .ok (.iload_n 2, 1) := by decide +kernel
theorem dX0_fillByMean_23 : decode cX0_fillByMean 23 = .ok (.ifCond .le 20, 3) := by decide +kernel
theorem dX0_fillByMean_26 : decode cX0_fillByMean 26 = .ok (.iload 5, 2) := by decide +kernel
theorem dX0_fillByMean_28 : decode cX0_fillByMean 28 = .ok (.iload_n 2, 1) := by decide +kernel
theorem dX0_fillByMean_29 : decode cX0_fillByMean 29 = .ok (.if_icmp .lt 14, 3) := by decide +kernel
theorem dX0_fillByMean_32 : decode cX0_fillByMean 32 = .ok (.iload 4, 2) := by decide +kernel
theorem dX0_fillByMean_34 : decode cX0_fillByMean 34 = .ok (.aload_n 3, 1) := by decide +kernel
theorem dX0_fillByMean_35 : decode cX0_fillByMean 35 = .ok (.iload 5, 2) := by decide +kernel
theorem dX0_fillByMean_37 : decode cX0_fillByMean 37 = .ok (.iload_n 2, 1) := by decide +kernel
theorem dX0_fillByMean_38 : decode cX0_fillByMean 38 = .ok (.isub, 1) := by decide +kernel
theorem dX0_fillByMean_39 : decode cX0_fillByMean 39 = .ok (.iaload, 1) := by decide +kernel
theorem dX0_fillByMean_40 : decode cX0_fillByMean 40 = .ok (.isub, 1) := by decide +kernel
theorem dX0_fillByMean_41 : decode cX0_fillByMean 41 = .ok (.istore 4, 2) := by decide +kernel
theorem dX0_fillByMean_43 : decode cX0_fillByMean 43 = .ok (.iconst 1, 1) := by decide +kernel
theorem dX0_fillByMean_44 : decode cX0_fillByMean 44 = .ok (.iload_n 2, 1) := by decide +kernel
theorem dX0_fillByMean_45 : decode cX0_fillByMean 45 = .ok (.iload 5, 2) := by decide +kernel
theorem dX0_fillByMean_47 : decode cX0_fillByMean 47 = .ok (.iconst 1, 1) := by decide +kernel
theorem dX0_fillByMean_48 : decode cX0_fillByMean 48 = .ok (.iadd, 1) := by decide +kernel
theorem dX0_fillByMean_49 : decode cX0_fillByMean 49 = .ok (.invokestatic 51, 3) := by decide +kernel
theorem dX0_fillByMean_52 : decode cX0_fillByMean 52 = .ok (.invokestatic 67, 3) := by decide +kernel
theorem dX0_fillByMean_55 : decode cX0_fillByMean 55 = .ok (.istore 6, 2) := by decide +kernel
theorem dX0_fillByMean_57 : decode cX0_fillByMean 57 = .ok (.aload_n 0, 1) := by decide +kernel
theorem dX0_fillByMean_58 : decode cX0_fillByMean 58 = .ok (.getfield 24, 3) := by decide +kernel
theorem dX0_fillByMean_61 : decode cX0_fillByMean 61 = .ok (.iload 5, 2) := by decide +kernel
theorem dX0_fillByMean_63 : decode cX0_fillByMean 63 = .ok (.iload_n 1, 1) := by decide +kernel
theorem dX0_fillByMean_64 : decode cX0_fillByMean 64 = .ok (.iload 4, 2) := by decide +kernel
theorem dX0_fillByMean_66 : decode cX0_fillByMean 66 = .ok (.iload 6, 2) := by decide +kernel
theorem dX0_fillByMean_68 : decode cX0_fillByMean 68 = .ok (.idiv, 1) := by decide +kernel
theorem dX0_fillByMean_69 : decode cX0_fillByMean 69 = .ok (.imul, 1) := by decide +kernel
theorem dX0_fillByMean_70 : decode cX0_fillByMean 70 = .ok (.bipush 100, 2) := by decide +kernel
theorem dX0_fillByMean_72 : decode cX0_fillByMean 72 = .ok (.idiv, 1) := by decide +kernel
theorem dX0_fillByMean_73 : decode cX0_fillByMean 73 = .ok (.iastore, 1) := by decide +kernel
theorem dX0_fillByMean_74 : decode cX0_fillByMean 74 = .ok (.iinc 5 1, 3) := by decide +kernel
theorem dX0_fillByMean_77 : decode cX0_fillByMean 77 = .ok (.goto (-71), 3) := by decide +kernel
theorem dX0_fillByMean_80 : decode cX0_fillByMean 80 = .ok (.return_, 1) := by decide +kernel
theorem dX0_fillByRain_0 : decode cX0_fillByRain 0 = .ok (.iconst 0, 1) := by decide +kernel
theorem dX0_fillByRain_1 : decode cX0_fillByRain 1 = .ok (.istore_n 3, 1) := by decide +kernel
theorem dX0_fillByRain_2 : decode cX0_fillByRain 2 = .ok (.iconst 0, 1) := by decide +kernel
theorem dX0_fillByRain_3 : decode cX0_fillByRain 3 = .ok (.istore 4, 2) := by decide +kernel
theorem dX0_fillByRain_5 : decode cX0_fillByRain 5 = .ok (.iload 4, 2) := by decide +kernel
theorem dX0_fillByRain_7 : decode cX0_fillByRain 7 = .ok (.bipush 60, 2) := by decide +kernel
theorem dX0_fillByRain_9 : decode cX0_fillByRain 9 = .ok (.if_icmp .ge 41, 3) := by decide +kernel
theorem dX0_fillByRain_12 : decode cX0_fillByRain 12 = .ok (.iload_n 3, 1) := by decide +kernel
theorem dX0_fillByRain_13 : decode cX0_fillByRain 13 = .ok (.aload_n 2, 1) := by decide +kernel
theorem dX0_fillByRain_14 : decode cX0_fillByRain 14 = .ok (.iload 4, 2) := by decide +kernel
theorem dX0_fillByRain_16 : decode cX0_fillByRain 16 = .ok (.iaload, 1) := by decide +kernel
theorem dX0_fillByRain_17 : decode cX0_fillByRain 17 = .ok (.iadd, 1) := by decide +kernel
theorem dX0_fillByRain_18 : decode cX0_fillByRain 18 = .ok (.istore_n 3, 1) := by decide +kernel
theorem dX0_fillByRain_19 : decode cX0_fillByRain 19 = .ok (.iload 4, 2) := by decide +kernel
theorem dX0_fillByRain_21 : decode cX0_fillByRain 21 = .ok (.iconst 5, 1) := by decide +kernel
theorem dX0_fillByRain_22 : decode cX0_fillByRain 22 = .ok (.if_icmp .lt 12, 3) := by decide +kernel
theorem dX0_fillByRain_25 : decode cX0_fillByRain 25 = .ok (.iload_n 3, 1) := by decide +kernel
theorem dX0_fillByRain_26 : decode cX0_fillByRain 26 = .ok (.aload_n 2, 1) := by decide +kernel
theorem dX0_fillByRain_27 : decode cX0_fillByRain 27 = .ok (.iload 4, 2) := by decide +kernel
theorem dX0_fillByRain_29 : decode cX0_fillByRain 29 = .ok (.iconst 5, 1) := by decide +kernel
theorem dX0_fillByRain_30 : decode cX0_fillByRain 30 = .ok (.isub, 1) := by decide +kernel
theorem dX0_fillByRain_31 : decode cX0_fillByRain 31 = .ok (.iaload, 1) := by decide +kernel
theorem dX0_fillByRain_32 : decode cX0_fillByRain 32 = .ok (.isub, 1) := by decide +kernel
theorem dX0_fillByRain_33 : decode cX0_fillByRain 33 = .ok (.istore_n 3, 1) := by decide +kernel
theorem dX0_fillByRain_34 : decode cX0_fillByRain 34 = .ok (.aload_n 0, 1) := by decide +kernel
theorem dX0_fillByRain_35 : decode cX0_fillByRain 35 = .ok (.getfield 24, 3) := by decide +kernel
theorem dX0_fillByRain_38 : decode cX0_fillByRain 38 = .ok (.iload 4, 2) := by decide +kernel
theorem dX0_fillByRain_40 : decode cX0_fillByRain 40 = .ok (.iload_n 1, 1) := by decide +kernel
theorem dX0_fillByRain_41 : decode cX0_fillByRain 41 = .ok (.iload_n 3, 1) := by decide +kernel
theorem dX0_fillByRain_42 : decode cX0_fillByRain 42 = .ok (.imul, 1) := by decide +kernel
theorem dX0_fillByRain_43 : decode cX0_fillByRain 43 = .ok (.iastore, 1) := by decide +kernel
theorem dX0_fillByRain_44 : decode cX0_fillByRain 44 = .ok (.iinc 4 1, 3) := by decide +kernel
theorem dX0_fillByRain_47 : decode cX0_fillByRain 47 = .ok (.goto (-42), 3) := by decide +kernel
theorem dX0_fillByRain_50 : decode cX0_fillByRain 50 = .ok (.return_, 1) := by decide +kernel
theorem dX1_init_0 : decode cX1_init 0 = .ok (.aload_n 0, 1) := by decide +kernel
theorem dX1_init_1 : decode cX1_init 1 = .ok (.invokespecial 3, 3) := by decide +kernel
theorem dX1_init_4 : decode cX1_init 4 = .ok (.aload_n 0, 1) := by decide +kernel
theorem dX1_init_5 : decode cX1_init 5 = .ok (.new 9, 3) := by decide +kernel
theorem dX1_init_8 : decode cX1_init 8 = .ok (.dup, 1) := by decide +kernel
theorem dX1_init_9 : decode cX1_init 9 = .ok (.invokespecial 11, 3) := by decide +kernel
theorem dX1_init_12 : decode cX1_init 12 = .ok (.putfield 12, 3) := by decide +kernel
theorem dX1_init_15 : decode cX1_init 15 = .ok (.aload_n 0, 1) := by decide +kernel
theorem dX1_init_16 : decode cX1_init 16 = .ok (.iconst 5, 1) := by decide +kernel
theorem dX1_init_17 : decode cX1_init 17 = .ok (.newarray .int, 2) := by decide +kernel
theorem dX1_init_19 : decode cX1_init 19 = .ok (.putfield 18, 3) := by decide +kernel
theorem dX1_init_22 : decode cX1_init 22 = .ok (.aload_n 0, 1) := by decide +kernel
theorem dX1_init_23 : decode cX1_init 23 = .ok (.iconst 5, 1) := by decide +kernel
theorem dX1_init_24 : decode cX1_init 24 = .ok (.newarray .int, 2) := by decide +kernel
theorem dX1_init_26 : decode cX1_init 26 = .ok (.putfield 22, 3) := by decide +kernel
theorem dX1_init_29 : decode cX1_init 29 = .ok (.aload_n 0, 1) := by decide +kernel
theorem dX1_init_30 : decode cX1_init 30 = .ok (.bipush 60, 2) := by decide +kernel
theorem dX1_init_32 : decode cX1_init 32 = .ok (.newarray .int, 2) := by decide +kernel
theorem dX1_init_34 : decode cX1_init 34 = .ok (.putfield 25, 3) := by decide +kernel
theorem dX1_init_37 : decode cX1_init 37 = .ok (.aload_n 0, 1) := by decide +kernel
theorem dX1_init_38 : decode cX1_init 38 = .ok (.bipush 6, 2) := by decide +kernel
theorem dX1_init_40 : decode cX1_init 40 = .ok (.anewarray 28, 3) := by decide +kernel
theorem dX1_init_43 : decode cX1_init 43 = .ok (.putfield 30, 3) := by decide +kernel
theorem dX1_init_46 : decode cX1_init 46 = .ok (.aload_n 0, 1) := by decide +kernel
theorem dX1_init_47 : decode cX1_init 47 = .ok (.iconst 4, 1) := by decide +kernel
theorem dX1_init_48 : decode cX1_init 48 = .ok (.newarray .int, 2) := by decide +kernel
theorem dX1_init_50 : decode cX1_init 50 = .ok (.putfield 34, 3) := by decide +kernel
theorem dX1_init_53 : decode cX1_init 53 = .ok (.aload_n 0, 1) := by decide +kernel
theorem dX1_init_54 : decode cX1_init 54 = .ok (.iconst 4, 1) := by decide +kernel
theorem dX1_init_55 : decode cX1_init 55 = .ok (.newarray .int, 2) := by decide +kernel
theorem dX1_init_57 : decode cX1_init 57 = .ok (.putfield 37, 3) := by decide +kernel
theorem dX1_init_60 : decode cX1_init 60 = .ok (.aload_n 0, 1) := by decide +kernel
theorem dX1_init_61 : decode cX1_init 61 = .ok (.iconst 4, 1) := by decide +kernel
theorem dX1_init_62 : decode cX1_init 62 = .ok (.newarray .int, 2) := by decide +kernel
theorem dX1_init_64 : decode cX1_init 64 = .ok (.putfield 40, 3) := by decide +kernel
theorem dX1_init_67 : decode cX1_init 67 = .ok (.aload_n 0, 1) := by decide +kernel
theorem dX1_init_68 : decode cX1_init 68 = .ok (.iconst 4, 1) := by decide +kernel
theorem dX1_init_69 : decode cX1_init 69 = .ok (.newarray .int, 2) := by decide +kernel
theorem dX1_init_71 : decode cX1_init 71 = .ok (.putfield 43, 3) := by decide +kernel
theorem dX1_init_74 : decode cX1_init 74 = .ok (.aload_n 0, 1) := by decide +kernel
theorem dX1_init_75 : decode cX1_init 75 = .ok (.iconst 4, 1) := by decide +kernel
theorem dX1_init_76 : decode cX1_init 76 = .ok (.newarray .int, 2) := by decide +kernel
theorem dX1_init_78 : decode cX1_init 78 = .ok (.putfield 46, 3) := by decide +kernel
theorem dX1_init_81 : decode cX1_init 81 = .ok (.iconst 0, 1) := by decide +kernel
theorem dX1_init_82 : decode cX1_init 82 = .ok (.istore_n 1, 1) := by decide +kernel
theorem dX1_init_83 : decode cX1_init 83 = .ok (.iload_n 1, 1) := by decide +kernel
theorem dX1_init_84 : decode cX1_init 84 = .ok (.bipush 6, 2) := by decide +kernel
theorem dX1_init_86 : decode cX1_init 86 = .ok (.if_icmp .ge 22, 3) := by decide +kernel
theorem dX1_init_89 : decode cX1_init 89 = .ok (.aload_n 0, 1) := by decide +kernel
theorem dX1_init_90 : decode cX1_init 90 = .ok (.getfield 30, 3) := by decide +kernel
theorem dX1_init_93 : decode cX1_init 93 = .ok (.iload_n 1, 1) := by decide +kernel
theorem dX1_init_94 : decode cX1_init 94 = .ok (.new 28, 3) := by decide +kernel
theorem dX1_init_97 : decode cX1_init 97 = .ok (.dup, 1) := by decide +kernel
theorem dX1_init_98 : decode cX1_init 98 = .ok (.invokespecial 49, 3) := by decide +kernel
theorem dX1_init_101 : decode cX1_init 101 = .ok (.aastore, 1) := by decide +kernel
theorem dX1_init_102 : decode cX1_init 102 = .ok (.iinc 1 1, 3) := by decide +kernel
theorem dX1_init_105 : decode cX1_init 105 = .ok (.goto (-22), 3) := by decide +kernel
theorem dX1_init_108 : decode cX1_init 108 = .ok (.return_, 1) := by decide +kernel
theorem dX1_empty_0 : decode cX1_empty 0 = .ok (.aload_n 0, 1) := by decide +kernel
theorem dX1_empty_1 : decode cX1_empty 1 = .ok (.getfield 12, 3) := by decide +kernel
theorem dX1_empty_4 : decode cX1_empty 4 = .ok (.invokevirtual 50, 3) := by decide +kernel
theorem dX1_empty_7 : decode cX1_empty 7 = .ok (.aload_n 0, 1) := by decide +kernel
theorem dX1_empty_8 : decode cX1_empty 8 = .ok (.iconst 0, 1) := by decide +kernel
theorem dX1_empty_9 : decode cX1_empty 9 = .ok (.putfield 53, 3) := by decide +kernel
theorem dX1_empty_12 : decode cX1_empty 12 = .ok (.aload_n 0, 1) := by decide +kernel
theorem dX1_empty_13 : decode cX1_empty 13 = .ok (.iconst 0, 1) := by decide +kernel
theorem dX1_empty_14 : decode cX1_empty 14 = .ok (.putfield 57, 3) := by decide +kernel
theorem dX1_empty_17 : decode cX1_empty 17 = .ok (.aload_n 0, 1) := by decide +kernel
theorem dX1_empty_18 : decode cX1_empty 18 = .ok (.getfield 25, 3) := by decide +kernel
theorem dX1_empty_21 : decode cX1_empty 21 = .ok (.iconst 0, 1) := by decide +kernel
theorem dX1_empty_22 : decode cX1_empty 22 = .ok (.invokestatic 60, 3) := by decide +kernel
theorem dX1_empty_25 : decode cX1_empty 25 = .ok (.aload_n 0, 1) := by decide +kernel
theorem dX1_empty_26 : decode cX1_empty 26 = .ok (.iconst 0, 1) := by decide +kernel
theorem dX1_empty_27 : decode cX1_empty 27 = .ok (.putfield 66, 3) := by decide +kernel
theorem dX1_empty_30 : decode cX1_empty 30 = .ok (.aload_n 0, 1) := by decide +kernel
theorem dX1_empty_31 : decode cX1_empty 31 = .ok (.iconst 0, 1) := by decide +kernel
theorem dX1_empty_32 : decode cX1_empty 32 = .ok (.putfield 69, 3) := by decide +kernel
theorem dX1_empty_35 : decode cX1_empty 35 = .ok (.aload_n 0, 1) := by decide +kernel
theorem dX1_empty_36 : decode cX1_empty 36 = .ok (.iconst 0, 1) := by decide +kernel
theorem dX1_empty_37 : decode cX1_empty 37 = .ok (.putfield 72, 3) := by decide +kernel
theorem dX1_empty_40 : decode cX1_empty 40 = .ok (.return_, 1) := by decide +kernel
theorem dX2_init_0 : decode cX2_init 0 = .ok (.aload_n 0, 1) := by decide +kernel
theorem dX2_init_1 : decode cX2_init 1 = .ok (.invokespecial 3, 3) := by decide +kernel
theorem dX2_init_4 : decode cX2_init 4 = .ok (.aload_n 0, 1) := by decide +kernel
theorem dX2_init_5 : decode cX2_init 5 = .ok (.bipush 16, 2) := by decide +kernel
theorem dX2_init_7 : decode cX2_init 7 = .ok (.newarray .int, 2) := by decide +kernel
theorem dX2_init_9 : decode cX2_init 9 = .ok (.putfield 9, 3) := by decide +kernel
theorem dX2_init_12 : decode cX2_init 12 = .ok (.aload_n 0, 1) := by decide +kernel
theorem dX2_init_13 : decode cX2_init 13 = .ok (.bipush 16, 2) := by decide +kernel
theorem dX2_init_15 : decode cX2_init 15 = .ok (.newarray .int, 2) := by decide +kernel
theorem dX2_init_17 : decode cX2_init 17 = .ok (.putfield 15, 3) := by decide +kernel
theorem dX2_init_20 : decode cX2_init 20 = .ok (.return_, 1) := by decide +kernel
theorem dX2_empty_0 : decode cX2_empty 0 = .ok (.aload_n 0, 1) := by decide +kernel
theorem dX2_empty_1 : decode cX2_empty 1 = .ok (.iconst 0, 1) := by decide +kernel
theorem dX2_empty_2 : decode cX2_empty 2 = .ok (.putfield 18, 3) := by decide +kernel
theorem dX2_empty_5 : decode cX2_empty 5 = .ok (.aload_n 0, 1) := by decide +kernel
theorem dX2_empty_6 : decode cX2_empty 6 = .ok (.iconst 0, 1) := by decide +kernel
theorem dX2_empty_7 : decode cX2_empty 7 = .ok (.putfield 22, 3) := by decide +kernel
theorem dX2_empty_10 : decode cX2_empty 10 = .ok (.aload_n 0, 1) := by decide +kernel
theorem dX2_empty_11 : decode cX2_empty 11 = .ok (.iconst 0, 1) := by decide +kernel
theorem dX2_empty_12 : decode cX2_empty 12 = .ok (.putfield 26, 3) := by decide +kernel
theorem dX2_empty_15 : decode cX2_empty 15 = .ok (.aload_n 0, 1) := by decide +kernel
theorem dX2_empty_16 : decode cX2_empty 16 = .ok (.iconst 0, 1) := by decide +kernel
theorem dX2_empty_17 : decode cX2_empty 17 = .ok (.putfield 29, 3) := by decide +kernel
theorem dX2_empty_20 : decode cX2_empty 20 = .ok (.aload_n 0, 1) := by decide +kernel
theorem dX2_empty_21 : decode cX2_empty 21 = .ok (.iconst 0, 1) := by decide +kernel
theorem dX2_empty_22 : decode cX2_empty 22 = .ok (.putfield 32, 3) := by decide +kernel
theorem dX2_empty_25 : decode cX2_empty 25 = .ok (.aload_n 0, 1) := by decide +kernel
theorem dX2_empty_26 : decode cX2_empty 26 = .ok (.iconst 0, 1) := by decide +kernel
theorem dX2_empty_27 : decode cX2_empty 27 = .ok (.putfield 35, 3) := by decide +kernel
theorem dX2_empty_30 : decode cX2_empty 30 = .ok (.return_, 1) := by decide +kernel
theorem dX2_addFrom_0 : decode cX2_addFrom 0 = .ok (.aload_n 0, 1) := by decide +kernel
theorem dX2_addFrom_1 : decode cX2_addFrom 1 = .ok (.getfield 32, 3) := by decide +kernel
theorem dX2_addFrom_4 : decode cX2_addFrom 4 = .ok (.bipush 16, 2) := by decide +kernel
theorem dX2_addFrom_6 : decode cX2_addFrom 6 = .ok (.if_icmp .ge 33, 3) := by decide +kernel
theorem dX2_addFrom_9 : decode cX2_addFrom 9 = .ok (.aload_n 0, 1) := by decide +kernel
theorem dX2_addFrom_10 : decode cX2_addFrom 10 = .ok (.getfield 9, 3) := by decide +kernel
theorem dX2_addFrom_13 : decode cX2_addFrom 13 = .ok (.aload_n 0, 1) := by decide +kernel
theorem dX2_addFrom_14 : decode cX2_addFrom 14 = .ok (.getfield 32, 3) := by decide +kernel
theorem dX2_addFrom_17 : decode cX2_addFrom 17 = .ok (.iload_n 1, 1) := by decide +kernel
theorem dX2_addFrom_18 : decode cX2_addFrom 18 = .ok (.iastore, 1) := by decide +kernel
theorem dX2_addFrom_19 : decode cX2_addFrom 19 = .ok (.aload_n 0, 1) := by decide +kernel
theorem dX2_addFrom_20 : decode cX2_addFrom 20 = .ok (.getfield 15, 3) := by decide +kernel
theorem dX2_addFrom_23 : decode cX2_addFrom 23 = .ok (.aload_n 0, 1) := by decide +kernel
theorem dX2_addFrom_24 : decode cX2_addFrom 24 = .ok (.getfield 32, 3) := by decide +kernel
theorem dX2_addFrom_27 : decode cX2_addFrom 27 = .ok (.iload_n 2, 1) := by decide +kernel
theorem dX2_addFrom_28 : decode cX2_addFrom 28 = .ok (.iastore, 1) := by decide +kernel
theorem dX2_addFrom_29 : decode cX2_addFrom 29 = .ok (.aload_n 0, 1) := by decide +kernel
theorem dX2_addFrom_30 : decode cX2_addFrom 30 = .ok (.dup, 1) := by decide +kernel
theorem dX2_addFrom_31 : decode cX2_addFrom 31 = .ok (.getfield 32, 3) := by decide +kernel
theorem dX2_addFrom_34 : decode cX2_addFrom 34 = .ok (.iconst 1, 1) := by decide +kernel
theorem dX2_addFrom_35 : decode cX2_addFrom 35 = .ok (.iadd, 1) := by decide +kernel
theorem dX2_addFrom_36 : decode cX2_addFrom 36 = .ok (.putfield 32, 3) := by decide +kernel
theorem dX2_addFrom_39 : decode cX2_addFrom 39 = .ok (.return_, 1) := by decide +kernel
theorem dX2_goalOf_0 : decode cX2_goalOf 0 = .ok (.iconst 0, 1) := by decide +kernel
theorem dX2_goalOf_1 : decode cX2_goalOf 1 = .ok (.istore_n 2, 1) := by decide +kernel
theorem dX2_goalOf_2 : decode cX2_goalOf 2 = .ok (.aload_n 0, 1) := by decide +kernel
theorem dX2_goalOf_3 : decode cX2_goalOf 3 = .ok (.getfield 22, 3) := by decide +kernel
theorem dX2_goalOf_6 : decode cX2_goalOf 6 = .ok (.istore_n 3, 1) := by decide +kernel
theorem dX2_goalOf_7 : decode cX2_goalOf 7 = .ok (.iconst 0, 1) := by decide +kernel
theorem dX2_goalOf_8 : decode cX2_goalOf 8 = .ok (.istore 4, 2) := by decide +kernel
theorem dX2_goalOf_10 : decode cX2_goalOf 10 = .ok (.iload 4, 2) := by decide +kernel
theorem dX2_goalOf_12 : decode cX2_goalOf 12 = .ok (.aload_n 0, 1) := by decide +kernel
theorem dX2_goalOf_13 : decode cX2_goalOf 13 = .ok (.getfield 32, 3) := by decide +kernel
theorem dX2_goalOf_16 : decode cX2_goalOf 16 = .ok (.if_icmp .ge 47, 3) := by decide +kernel
theorem dX2_goalOf_19 : decode cX2_goalOf 19 = .ok (.aload_n 0, 1) := by decide +kernel
theorem dX2_goalOf_20 : decode cX2_goalOf 20 = .ok (.getfield 9, 3) := by decide +kernel
theorem dX2_goalOf_23 : decode cX2_goalOf 23 = .ok (.iload 4, 2) := by decide +kernel
theorem dX2_goalOf_25 : decode cX2_goalOf 25 = .ok (.iaload, 1) := by decide +kernel
theorem dX2_goalOf_26 : decode cX2_goalOf 26 = .ok (.iload_n 1, 1) := by decide +kernel
theorem dX2_goalOf_27 : decode cX2_goalOf 27 = .ok (.if_icmp .gt 30, 3) := by decide +kernel
theorem dX2_goalOf_30 : decode cX2_goalOf 30 = .ok (.aload_n 0, 1) := by decide +kernel
theorem dX2_goalOf_31 : decode cX2_goalOf 31 = .ok (.getfield 9, 3) := by decide +kernel
theorem dX2_goalOf_34 : decode cX2_goalOf 34 = .ok (.iload 4, 2) := by decide +kernel
theorem dX2_goalOf_36 : decode cX2_goalOf 36 = .ok (.iaload, 1) := by decide +kernel
theorem dX2_goalOf_37 : decode cX2_goalOf 37 = .ok (.iload_n 2, 1) := by decide +kernel
theorem dX2_goalOf_38 : decode cX2_goalOf 38 = .ok (.if_icmp .lt 19, 3) := by decide +kernel
theorem dX2_goalOf_41 : decode cX2_goalOf 41 = .ok (.aload_n 0, 1) := by decide +kernel
theorem dX2_goalOf_42 : decode cX2_goalOf 42 = .ok (.getfield 9, 3) := by decide +kernel
theorem dX2_goalOf_45 : decode cX2_goalOf 45 = .ok (.iload 4, 2) := by decide +kernel
theorem dX2_goalOf_47 : decode cX2_goalOf 47 = .ok (.iaload, 1) := by decide +kernel
theorem dX2_goalOf_48 : decode cX2_goalOf 48 = .ok (.istore_n 2, 1) := by decide +kernel
theorem dX2_goalOf_49 : decode cX2_goalOf 49 = .ok (.aload_n 0, 1) := by decide +kernel
theorem dX2_goalOf_50 : decode cX2_goalOf 50 = .ok (.getfield 15, 3) := by decide +kernel
theorem dX2_goalOf_53 : decode cX2_goalOf 53 = .ok (.iload 4, 2) := by decide +kernel
theorem dX2_goalOf_55 : decode cX2_goalOf 55 = .ok (.iaload, 1) := by decide +kernel
theorem dX2_goalOf_56 : decode cX2_goalOf 56 = .ok (.istore_n 3, 1) := by decide +kernel
theorem dX2_goalOf_57 : decode cX2_goalOf 57 = .ok (.iinc 4 1, 3) := by decide +kernel
theorem dX2_goalOf_60 : decode cX2_goalOf 60 = .ok (.goto (-50), 3) := by decide +kernel
theorem dX2_goalOf_63 : decode cX2_goalOf 63 = .ok (.iload_n 3, 1) := by decide +kernel
theorem dX2_goalOf_64 : decode cX2_goalOf 64 = .ok (.aload_n 0, 1) := by decide +kernel
theorem dX2_goalOf_65 : decode cX2_goalOf 65 = .ok (.getfield 29, 3) := by decide +kernel
theorem dX2_goalOf_68 : decode cX2_goalOf 68 = .ok (.invokestatic 38, 3) := by decide +kernel
theorem dX2_goalOf_71 : decode cX2_goalOf 71 = .ok (.ireturn, 1) := by decide +kernel
theorem dX2_towards_0 : decode cX2_towards 0 = .ok (.iload_n 2, 1) := by decide +kernel
theorem dX2_towards_1 : decode cX2_towards 1 = .ok (.iload_n 1, 1) := by decide +kernel
theorem dX2_towards_2 : decode cX2_towards 2 = .ok (.if_icmp .ge 16, 3) := by decide +kernel
theorem dX2_towards_5 : decode cX2_towards 5 = .ok (.iload_n 1, 1) := by decide +kernel
theorem dX2_towards_6 : decode cX2_towards 6 = .ok (.iload_n 2, 1) := by decide +kernel
theorem dX2_towards_7 : decode cX2_towards 7 = .ok (.aload_n 0, 1) := by decide +kernel
theorem dX2_towards_8 : decode cX2_towards 8 = .ok (.getfield 26, 3) := by decide +kernel
theorem dX2_towards_11 : decode cX2_towards 11 = .ok (.iadd, 1) := by decide +kernel
theorem dX2_towards_12 : decode cX2_towards 12 = .ok (.invokestatic 38, 3) := by decide +kernel
theorem dX2_towards_15 : decode cX2_towards 15 = .ok (.goto 13, 3) := by decide +kernel
theorem dX2_towards_18 : decode cX2_towards 18 = .ok (.iload_n 1, 1) := by decide +kernel
theorem dX2_towards_19 : decode cX2_towards 19 = .ok (.iload_n 2, 1) := by decide +kernel
theorem dX2_towards_20 : decode cX2_towards 20 = .ok (.aload_n 0, 1) := by decide +kernel
theorem dX2_towards_21 : decode cX2_towards 21 = .ok (.getfield 26, 3) := by decide +kernel
theorem dX2_towards_24 : decode cX2_towards 24 = .ok (.isub, 1) := by decide +kernel
theorem dX2_towards_25 : decode cX2_towards 25 = .ok (.invokestatic 44, 3) := by decide +kernel
theorem dX2_towards_28 : decode cX2_towards 28 = .ok (.ireturn, 1) := by decide +kernel
theorem dX2_fillByPlan_0 : decode cX2_fillByPlan 0 = .ok (.aload_n 0, 1) := by decide +kernel
theorem dX2_fillByPlan_1 : decode cX2_fillByPlan 1 = .ok (.getfield 22, 3) := by decide +kernel
theorem dX2_fillByPlan_4 : decode cX2_fillByPlan 4 = .ok (.istore_n 3, 1) := by decide +kernel
theorem dX2_fillByPlan_5 : decode cX2_fillByPlan 5 = .ok (.iconst 0, 1) := by decide +kernel
theorem dX2_fillByPlan_6 : decode cX2_fillByPlan 6 = .ok (.istore 4, 2) := by decide +kernel
theorem dX2_fillByPlan_8 : decode cX2_fillByPlan 8 = .ok (.iload 4, 2) := by decide +kernel
theorem dX2_fillByPlan_10 : decode cX2_fillByPlan 10 = .ok (.bipush 60, 2) := by decide +kernel
theorem dX2_fillByPlan_12 : decode cX2_fillByPlan 12 = .ok (.if_icmp .ge 36, 3) := by decide +kernel
theorem dX2_fillByPlan_15 : decode cX2_fillByPlan 15 = .ok (.aload_n 0, 1) := by decide +kernel
theorem dX2_fillByPlan_16 : decode cX2_fillByPlan 16 = .ok (.iload 4, 2) := by decide +kernel
theorem dX2_fillByPlan_18 : decode cX2_fillByPlan 18 = .ok (.iload_n 2, 1) := by decide +kernel
theorem dX2_fillByPlan_19 : decode cX2_fillByPlan 19 = .ok (.if_icmp .ge 12, 3) := by decide +kernel
theorem dX2_fillByPlan_22 : decode cX2_fillByPlan 22 = .ok (.aload_n 0, 1) := by decide +kernel
theorem dX2_fillByPlan_23 : decode cX2_fillByPlan 23 = .ok (.iload 4, 2) := by decide +kernel
theorem dX2_fillByPlan_25 : decode cX2_fillByPlan 25 = .ok (.invokevirtual 47, 3) := by decide +kernel
theorem dX2_fillByPlan_28 : decode cX2_fillByPlan 28 = .ok (.goto 4, 3) := by decide +kernel
theorem dX2_fillByPlan_31 : decode cX2_fillByPlan 31 = .ok (.iconst 0, 1) := by decide +kernel
theorem dX2_fillByPlan_32 : decode cX2_fillByPlan 32 = .ok (.iload_n 3, 1) := by decide +kernel
theorem dX2_fillByPlan_33 : decode cX2_fillByPlan 33 = .ok (.invokevirtual 51, 3) := by decide +kernel
theorem dX2_fillByPlan_36 : decode cX2_fillByPlan 36 = .ok (.istore_n 3, 1) := by decide +kernel
theorem dX2_fillByPlan_37 : decode cX2_fillByPlan 37 = .ok (.aload_n 1, 1) := by decide +kernel
theorem dX2_fillByPlan_38 : decode cX2_fillByPlan 38 = .ok (.iload 4, 2) := by decide +kernel
theorem dX2_fillByPlan_40 : decode cX2_fillByPlan 40 = .ok (.iload_n 3, 1) := by decide +kernel
theorem dX2_fillByPlan_41 : decode cX2_fillByPlan 41 = .ok (.iastore, 1) := by decide +kernel
theorem dX2_fillByPlan_42 : decode cX2_fillByPlan 42 = .ok (.iinc 4 1, 3) := by decide +kernel
theorem dX2_fillByPlan_45 : decode cX2_fillByPlan 45 = .ok (.goto (-37), 3) := by decide +kernel
theorem dX2_fillByPlan_48 : decode cX2_fillByPlan 48 = .ok (.return_, 1) := by decide +kernel
theorem dX2_fillSteady_0 : decode cX2_fillSteady 0 = .ok (.aload_n 0, 1) := by decide +kernel
theorem dX2_fillSteady_1 : decode cX2_fillSteady 1 = .ok (.getfield 22, 3) := by decide +kernel
theorem dX2_fillSteady_4 : decode cX2_fillSteady 4 = .ok (.istore_n 3, 1) := by decide +kernel
theorem dX2_fillSteady_5 : decode cX2_fillSteady 5 = .ok (.iconst 0, 1) := by decide +kernel
theorem dX2_fillSteady_6 : decode cX2_fillSteady 6 = .ok (.istore 4, 2) := by decide +kernel
theorem dX2_fillSteady_8 : decode cX2_fillSteady 8 = .ok (.iload 4, 2) := by decide +kernel
theorem dX2_fillSteady_10 : decode cX2_fillSteady 10 = .ok (.bipush 60, 2) := by decide +kernel
theorem dX2_fillSteady_12 : decode cX2_fillSteady 12 = .ok (.if_icmp .ge 21, 3) := by decide +kernel
theorem dX2_fillSteady_15 : decode cX2_fillSteady 15 = .ok (.aload_n 0, 1) := by decide +kernel
theorem dX2_fillSteady_16 : decode cX2_fillSteady 16 = .ok (.iload_n 2, 1) := by decide +kernel
theorem dX2_fillSteady_17 : decode cX2_fillSteady 17 = .ok (.iload_n 3, 1) := by decide +kernel
theorem dX2_fillSteady_18 : decode cX2_fillSteady 18 = .ok (.invokevirtual 51, 3) := by decide +kernel
theorem dX2_fillSteady_21 : decode cX2_fillSteady 21 = .ok (.istore_n 3, 1) := by decide +kernel
theorem dX2_fillSteady_22 : decode cX2_fillSteady 22 = .ok (.aload_n 1, 1) := by decide +kernel
theorem dX2_fillSteady_23 : decode cX2_fillSteady 23 = .ok (.iload 4, 2) := by decide +kernel
theorem dX2_fillSteady_25 : decode cX2_fillSteady 25 = .ok (.iload_n 3, 1) := by decide +kernel
theorem dX2_fillSteady_26 : decode cX2_fillSteady 26 = .ok (.iastore, 1) := by decide +kernel
theorem dX2_fillSteady_27 : decode cX2_fillSteady 27 = .ok (.iinc 4 1, 3) := by decide +kernel
theorem dX2_fillSteady_30 : decode cX2_fillSteady 30 = .ok (.goto (-22), 3) := by decide +kernel
theorem dX2_fillSteady_33 : decode cX2_fillSteady 33 = .ok (.return_, 1) := by decide +kernel
theorem dX3_init_0 : decode cX3_init 0 = .ok (.aload_n 0, 1) := by decide +kernel
theorem dX3_init_1 : decode cX3_init 1 = .ok (.invokespecial 3, 3) := by decide +kernel
theorem dX3_init_4 : decode cX3_init 4 = .ok (.aload_n 0, 1) := by decide +kernel
theorem dX3_init_5 : decode cX3_init 5 = .ok (.bipush 24, 2) := by decide +kernel
theorem dX3_init_7 : decode cX3_init 7 = .ok (.newarray .int, 2) := by decide +kernel
theorem dX3_init_9 : decode cX3_init 9 = .ok (.putfield 9, 3) := by decide +kernel
theorem dX3_init_12 : decode cX3_init 12 = .ok (.aload_n 0, 1) := by decide +kernel
theorem dX3_init_13 : decode cX3_init 13 = .ok (.bipush 24, 2) := by decide +kernel
theorem dX3_init_15 : decode cX3_init 15 = .ok (.newarray .int, 2) := by decide +kernel
theorem dX3_init_17 : decode cX3_init 17 = .ok (.putfield 15, 3) := by decide +kernel
theorem dX3_init_20 : decode cX3_init 20 = .ok (.aload_n 0, 1) := by decide +kernel
theorem dX3_init_21 : decode cX3_init 21 = .ok (.bipush 24, 2) := by decide +kernel
theorem dX3_init_23 : decode cX3_init 23 = .ok (.newarray .int, 2) := by decide +kernel
theorem dX3_init_25 : decode cX3_init 25 = .ok (.putfield 18, 3) := by decide +kernel
theorem dX3_init_28 : decode cX3_init 28 = .ok (.aload_n 0, 1) := by decide +kernel
theorem dX3_init_29 : decode cX3_init 29 = .ok (.bipush 24, 2) := by decide +kernel
theorem dX3_init_31 : decode cX3_init 31 = .ok (.newarray .int, 2) := by decide +kernel
theorem dX3_init_33 : decode cX3_init 33 = .ok (.putfield 21, 3) := by decide +kernel
theorem dX3_init_36 : decode cX3_init 36 = .ok (.return_, 1) := by decide +kernel
theorem dX3_add_0 : decode cX3_add 0 = .ok (.aload_n 0, 1) := by decide +kernel
theorem dX3_add_1 : decode cX3_add 1 = .ok (.getfield 24, 3) := by decide +kernel
theorem dX3_add_4 : decode cX3_add 4 = .ok (.bipush 24, 2) := by decide +kernel
theorem dX3_add_6 : decode cX3_add 6 = .ok (.if_icmp .ge 54, 3) := by decide +kernel
theorem dX3_add_9 : decode cX3_add 9 = .ok (.aload_n 0, 1) := by decide +kernel
theorem dX3_add_10 : decode cX3_add 10 = .ok (.getfield 9, 3) := by decide +kernel
theorem dX3_add_13 : decode cX3_add 13 = .ok (.aload_n 0, 1) := by decide +kernel
theorem dX3_add_14 : decode cX3_add 14 = .ok (.getfield 24, 3) := by decide +kernel
theorem dX3_add_17 : decode cX3_add 17 = .ok (.iload_n 1, 1) := by decide +kernel
theorem dX3_add_18 : decode cX3_add 18 = .ok (.iastore, 1) := by decide +kernel
theorem dX3_add_19 : decode cX3_add 19 = .ok (.aload_n 0, 1) := by decide +kernel
theorem dX3_add_20 : decode cX3_add 20 = .ok (.getfield 15, 3) := by decide +kernel
theorem dX3_add_23 : decode cX3_add 23 = .ok (.aload_n 0, 1) := by decide +kernel
theorem dX3_add_24 : decode cX3_add 24 = .ok (.getfield 24, 3) := by decide +kernel
theorem dX3_add_27 : decode cX3_add 27 = .ok (.iload_n 2, 1) := by decide +kernel
theorem dX3_add_28 : decode cX3_add 28 = .ok (.iastore, 1) := by decide +kernel
theorem dX3_add_29 : decode cX3_add 29 = .ok (.aload_n 0, 1) := by decide +kernel
theorem dX3_add_30 : decode cX3_add 30 = .ok (.getfield 18, 3) := by decide +kernel
theorem dX3_add_33 : decode cX3_add 33 = .ok (.aload_n 0, 1) := by decide +kernel
theorem dX3_add_34 : decode cX3_add 34 = .ok (.getfield 24, 3) := by decide +kernel
theorem dX3_add_37 : decode cX3_add 37 = .ok (.iload_n 3, 1) := by decide +kernel
theorem dX3_add_38 : decode cX3_add 38 = .ok (.iastore, 1) := by decide +kernel
theorem dX3_add_39 : decode cX3_add 39 = .ok (.aload_n 0, 1) := by decide +kernel
theorem dX3_add_40 : decode cX3_add 40 = .ok (.getfield 21, 3) := by decide +kernel
theorem dX3_add_43 : decode cX3_add 43 = .ok (.aload_n 0, 1) := by decide +kernel
theorem dX3_add_44 : decode cX3_add 44 = .ok (.getfield 24, 3) := by decide +kernel
theorem dX3_add_47 : decode cX3_add 47 = .ok (.iload 4, 2) := by decide +kernel
theorem dX3_add_49 : decode cX3_add 49 = .ok (.iastore, 1) := by decide +kernel
theorem dX3_add_50 : decode cX3_add 50 = .ok (.aload_n 0, 1) := by decide +kernel
theorem dX3_add_51 : decode cX3_add 51 = .ok (.dup, 1) := by decide +kernel
theorem dX3_add_52 : decode cX3_add 52 = .ok (.getfield 24, 3) := by decide +kernel
theorem dX3_add_55 : decode cX3_add 55 = .ok (.iconst 1, 1) := by decide +kernel
theorem dX3_add_56 : decode cX3_add 56 = .ok (.iadd, 1) := by decide +kernel
theorem dX3_add_57 : decode cX3_add 57 = .ok (.putfield 24, 3) := by decide +kernel
theorem dX3_add_60 : decode cX3_add 60 = .ok (.return_, 1) := by decide +kernel
theorem dX3_firstMisfit_0 : decode cX3_firstMisfit 0 = .ok (.bipush 60, 2) := by decide +kernel
theorem dX3_firstMisfit_2 : decode cX3_firstMisfit 2 = .ok (.istore_n 2, 1) := by decide +kernel
theorem dX3_firstMisfit_3 : decode cX3_firstMisfit 3 = .ok (.iconst 0, 1) := by decide +kernel
theorem dX3_firstMisfit_4 : decode cX3_firstMisfit 4 = .ok (.istore_n 3, 1) := by decide +kernel
theorem dX3_firstMisfit_5 : decode cX3_firstMisfit 5 = .ok (.iload_n 3, 1) := by decide +kernel
theorem dX3_firstMisfit_6 : decode cX3_firstMisfit 6 = .ok (.aload_n 0, 1) := by decide +kernel
theorem dX3_firstMisfit_7 : decode cX3_firstMisfit 7 = .ok (.getfield 24, 3) := by decide +kernel
theorem dX3_firstMisfit_10 : decode cX3_firstMisfit 10 = .ok (.if_icmp .ge 63, 3) := by decide +kernel
theorem dX3_firstMisfit_13 : decode cX3_firstMisfit 13 = .ok (.aload_n 1, 1) := by decide +kernel
theorem dX3_firstMisfit_14 : decode cX3_firstMisfit 14 = .ok (.getfield 28, 3) := by decide +kernel
theorem dX3_firstMisfit_17 : decode cX3_firstMisfit 17 = .ok (.aload_n 0, 1) := by decide +kernel
theorem dX3_firstMisfit_18 : decode cX3_firstMisfit 18 = .ok (.getfield 9, 3) := by decide +kernel
theorem dX3_firstMisfit_21 : decode cX3_firstMisfit 21 = .ok (.iload_n 3, 1) := by decide +kernel
theorem dX3_firstMisfit_22 : decode cX3_firstMisfit 22 = .ok (.iaload, 1) := by decide +kernel
theorem dX3_firstMisfit_23 : decode cX3_firstMisfit 23 = .ok (.aload_n 0, 1) := by decide +kernel
theorem dX3_firstMisfit_24 : decode cX3_firstMisfit 24 = .ok (.getfield 15, 3) := by decide +kernel
theorem dX3_firstMisfit_27 : decode cX3_firstMisfit 27 = .ok (.iload_n 3, 1) := by decide +kernel
theorem dX3_firstMisfit_28 : decode cX3_firstMisfit 28 = .ok (.iaload, 1) := by decide +kernel
theorem dX3_firstMisfit_29 : decode cX3_firstMisfit 29 = .ok (.invokestatic 31, 3) := by decide +kernel
theorem dX3_firstMisfit_32 : decode cX3_firstMisfit 32 = .ok (.iaload, 1) := by decide +kernel
theorem dX3_firstMisfit_33 : decode cX3_firstMisfit 33 = .ok (.aload_n 0, 1) := by decide +kernel
theorem dX3_firstMisfit_34 : decode cX3_firstMisfit 34 = .ok (.getfield 18, 3) := by decide +kernel
theorem dX3_firstMisfit_37 : decode cX3_firstMisfit 37 = .ok (.iload_n 3, 1) := by decide +kernel
theorem dX3_firstMisfit_38 : decode cX3_firstMisfit 38 = .ok (.iaload, 1) := by decide +kernel
theorem dX3_firstMisfit_39 : decode cX3_firstMisfit 39 = .ok (.isub, 1) := by decide +kernel
theorem dX3_firstMisfit_40 : decode cX3_firstMisfit 40 = .ok (.invokestatic 35, 3) := by decide +kernel
theorem dX3_firstMisfit_43 : decode cX3_firstMisfit 43 = .ok (.istore 4, 2) := by decide +kernel
theorem dX3_firstMisfit_45 : decode cX3_firstMisfit 45 = .ok (.iload 4, 2) := by decide +kernel
theorem dX3_firstMisfit_47 : decode cX3_firstMisfit 47 = .ok (.aload_n 0, 1) := by decide +kernel
theorem dX3_firstMisfit_48 : decode cX3_firstMisfit 48 = .ok (.getfield 21, 3) := by decide +kernel
theorem dX3_firstMisfit_51 : decode cX3_firstMisfit 51 = .ok (.iload_n 3, 1) := by decide +kernel
theorem dX3_firstMisfit_52 : decode cX3_firstMisfit 52 = .ok (.iaload, 1) := by decide +kernel
theorem dX3_firstMisfit_53 : decode cX3_firstMisfit 53 = .ok (.if_icmp .le 14, 3) := by decide +kernel
theorem dX3_firstMisfit_56 : decode cX3_firstMisfit 56 = .ok (.iload_n 2, 1) := by decide +kernel
theorem dX3_firstMisfit_57 : decode cX3_firstMisfit 57 = .ok (.aload_n 0, 1) := by decide +kernel
theorem dX3_firstMisfit_58 : decode cX3_firstMisfit 58 = .ok (.getfield 15, 3) := by decide +kernel
theorem dX3_firstMisfit_61 : decode cX3_firstMisfit 61 = .ok (.iload_n 3, 1) := by decide +kernel
theorem dX3_firstMisfit_62 : decode cX3_firstMisfit 62 = .ok (.iaload, 1) := by decide +kernel
theorem dX3_firstMisfit_63 : decode cX3_firstMisfit 63 = .ok (.invokestatic 41, 3) := by decide +kernel
theorem dX3_firstMisfit_66 : decode cX3_firstMisfit 66 = .ok (.istore_n 2, 1) := by decide +kernel
theorem dX3_firstMisfit_67 : decode cX3_firstMisfit 67 = .ok (.iinc 3 1, 3) := by decide +kernel
theorem dX3_firstMisfit_70 : decode cX3_firstMisfit 70 = .ok (.goto (-65), 3) := by decide +kernel
theorem dX3_firstMisfit_73 : decode cX3_firstMisfit 73 = .ok (.iload_n 2, 1) := by decide +kernel
theorem dX3_firstMisfit_74 : decode cX3_firstMisfit 74 = .ok (.ireturn, 1) := by decide +kernel
theorem dX3_firstDayOf_0 : decode cX3_firstDayOf 0 = .ok (.bipush 60, 2) := by decide +kernel
theorem dX3_firstDayOf_2 : decode cX3_firstDayOf 2 = .ok (.istore_n 3, 1) := by decide +kernel
theorem dX3_firstDayOf_3 : decode cX3_firstDayOf 3 = .ok (.iconst 0, 1) := by decide +kernel
theorem dX3_firstDayOf_4 : decode cX3_firstDayOf 4 = .ok (.istore 4, 2) := by decide +kernel
theorem dX3_firstDayOf_6 : decode cX3_firstDayOf 6 = .ok (.iload 4, 2) := by decide +kernel
theorem dX3_firstDayOf_8 : decode cX3_firstDayOf 8 = .ok (.aload_n 0, 1) := by decide +kernel
theorem dX3_firstDayOf_9 : decode cX3_firstDayOf 9 = .ok (.getfield 24, 3) := by decide +kernel
theorem dX3_firstDayOf_12 : decode cX3_firstDayOf 12 = .ok (.if_icmp .ge 43, 3) := by decide +kernel
theorem dX3_firstDayOf_15 : decode cX3_firstDayOf 15 = .ok (.aload_n 0, 1) := by decide +kernel
theorem dX3_firstDayOf_16 : decode cX3_firstDayOf 16 = .ok (.getfield 9, 3) := by decide +kernel
theorem dX3_firstDayOf_19 : decode cX3_firstDayOf 19 = .ok (.iload 4, 2) := by decide +kernel
theorem dX3_firstDayOf_21 : decode cX3_firstDayOf 21 = .ok (.iaload, 1) := by decide +kernel
theorem dX3_firstDayOf_22 : decode cX3_firstDayOf 22 = .ok (.iload_n 1, 1) := by decide +kernel
theorem dX3_firstDayOf_23 : decode cX3_firstDayOf 23 = .ok (.if_icmp .ne 26, 3) := by decide +kernel
theorem dX3_firstDayOf_26 : decode cX3_firstDayOf 26 = .ok (.aload_n 0, 1) := by decide +kernel
theorem dX3_firstDayOf_27 : decode cX3_firstDayOf 27 = .ok (.getfield 18, 3) := by decide +kernel
theorem dX3_firstDayOf_30 : decode cX3_firstDayOf 30 = .ok (.iload 4, 2) := by decide +kernel
theorem dX3_firstDayOf_32 : decode cX3_firstDayOf 32 = .ok (.iaload, 1) := by decide +kernel
theorem dX3_firstDayOf_33 : decode cX3_firstDayOf 33 = .ok (.iload_n 2, 1) := by decide +kernel
theorem dX3_firstDayOf_34 : decode cX3_firstDayOf 34 = .ok (.if_icmp .lt 15, 3) := by decide +kernel
theorem dX3_firstDayOf_37 : decode cX3_firstDayOf 37 = .ok (.iload_n 3, 1) := by decide +kernel
theorem dX3_firstDayOf_38 : decode cX3_firstDayOf 38 = .ok (.aload_n 0, 1) := by decide +kernel
theorem dX3_firstDayOf_39 : decode cX3_firstDayOf 39 = .ok (.getfield 15, 3) := by decide +kernel
theorem dX3_firstDayOf_42 : decode cX3_firstDayOf 42 = .ok (.iload 4, 2) := by decide +kernel
theorem dX3_firstDayOf_44 : decode cX3_firstDayOf 44 = .ok (.iaload, 1) := by decide +kernel
theorem dX3_firstDayOf_45 : decode cX3_firstDayOf 45 = .ok (.invokestatic 41, 3) := by decide +kernel
theorem dX3_firstDayOf_48 : decode cX3_firstDayOf 48 = .ok (.istore_n 3, 1) := by decide +kernel
theorem dX3_firstDayOf_49 : decode cX3_firstDayOf 49 = .ok (.iinc 4 1, 3) := by decide +kernel
theorem dX3_firstDayOf_52 : decode cX3_firstDayOf 52 = .ok (.goto (-46), 3) := by decide +kernel
theorem dX3_firstDayOf_55 : decode cX3_firstDayOf 55 = .ok (.iload_n 3, 1) := by decide +kernel
theorem dX3_firstDayOf_56 : decode cX3_firstDayOf 56 = .ok (.bipush 60, 2) := by decide +kernel
theorem dX3_firstDayOf_58 : decode cX3_firstDayOf 58 = .ok (.if_icmp .ge 7, 3) := by decide +kernel
theorem dX3_firstDayOf_61 : decode cX3_firstDayOf 61 = .ok (.iload_n 3, 1) := by decide +kernel
theorem dX3_firstDayOf_62 : decode cX3_firstDayOf 62 = .ok (.goto 5, 3) := by decide +kernel
theorem dX3_firstDayOf_65 : decode cX3_firstDayOf 65 = .ok (.bipush (-2), 2) := by decide +kernel
theorem dX3_firstDayOf_67 : decode cX3_firstDayOf 67 = .ok (.ireturn, 1) := by decide +kernel
theorem dX4_init_0 : decode cX4_init 0 = .ok (.aload_n 0, 1) := by decide +kernel
theorem dX4_init_1 : decode cX4_init 1 = .ok (.invokespecial 3, 3) := by decide +kernel
theorem dX4_init_4 : decode cX4_init 4 = .ok (.return_, 1) := by decide +kernel
theorem dX4_findsAt_0 : decode cX4_findsAt 0 = .ok (.aload_n 0, 1) := by decide +kernel
theorem dX4_findsAt_1 : decode cX4_findsAt 1 = .ok (.getfield 9, 3) := by decide +kernel
theorem dX4_findsAt_4 : decode cX4_findsAt 4 = .ok (.tableswitch 85 1 5 #[36, 50, 60, 85, 74], 36) := by decide +kernel
theorem dX4_findsAt_40 : decode cX4_findsAt 40 = .ok (.iload_n 1, 1) := by decide +kernel
theorem dX4_findsAt_41 : decode cX4_findsAt 41 = .ok (.aload_n 0, 1) := by decide +kernel
theorem dX4_findsAt_42 : decode cX4_findsAt 42 = .ok (.getfield 15, 3) := by decide +kernel
theorem dX4_findsAt_45 : decode cX4_findsAt 45 = .ok (.if_icmp .gt 7, 3) := by decide +kernel
theorem dX4_findsAt_48 : decode cX4_findsAt 48 = .ok (.iconst 1, 1) := by decide +kernel
theorem dX4_findsAt_49 : decode cX4_findsAt 49 = .ok (.goto 4, 3) := by decide +kernel
theorem dX4_findsAt_52 : decode cX4_findsAt 52 = .ok (.iconst 0, 1) := by decide +kernel
theorem dX4_findsAt_53 : decode cX4_findsAt 53 = .ok (.ireturn, 1) := by decide +kernel
theorem dX4_findsAt_54 : decode cX4_findsAt 54 = .ok (.aload_n 0, 1) := by decide +kernel
theorem dX4_findsAt_55 : decode cX4_findsAt 55 = .ok (.getfield 15, 3) := by decide +kernel
theorem dX4_findsAt_58 : decode cX4_findsAt 58 = .ok (.iload_n 1, 1) := by decide +kernel
theorem dX4_findsAt_59 : decode cX4_findsAt 59 = .ok (.imul, 1) := by decide +kernel
theorem dX4_findsAt_60 : decode cX4_findsAt 60 = .ok (.bipush 10, 2) := by decide +kernel
theorem dX4_findsAt_62 : decode cX4_findsAt 62 = .ok (.idiv, 1) := by decide +kernel
theorem dX4_findsAt_63 : decode cX4_findsAt 63 = .ok (.ireturn, 1) := by decide +kernel
theorem dX4_findsAt_64 : decode cX4_findsAt 64 = .ok (.iload_n 1, 1) := by decide +kernel
theorem dX4_findsAt_65 : decode cX4_findsAt 65 = .ok (.aload_n 0, 1) := by decide +kernel
theorem dX4_findsAt_66 : decode cX4_findsAt 66 = .ok (.getfield 15, 3) := by decide +kernel
theorem dX4_findsAt_69 : decode cX4_findsAt 69 = .ok (.if_icmp .ne 7, 3) := by decide +kernel
theorem dX4_findsAt_72 : decode cX4_findsAt 72 = .ok (.iconst 2, 1) := by decide +kernel
theorem dX4_findsAt_73 : decode cX4_findsAt 73 = .ok (.goto 4, 3) := by decide +kernel
theorem dX4_findsAt_76 : decode cX4_findsAt 76 = .ok (.iconst 0, 1) := by decide +kernel
theorem dX4_findsAt_77 : decode cX4_findsAt 77 = .ok (.ireturn, 1) := by decide +kernel
theorem dX4_findsAt_78 : decode cX4_findsAt 78 = .ok (.iload_n 1, 1) := by decide +kernel
theorem dX4_findsAt_79 : decode cX4_findsAt 79 = .ok (.iconst 5, 1) := by decide +kernel
theorem dX4_findsAt_80 : decode cX4_findsAt 80 = .ok (.if_icmp .gt 7, 3) := by decide +kernel
theorem dX4_findsAt_83 : decode cX4_findsAt 83 = .ok (.iconst 1, 1) := by decide +kernel
theorem dX4_findsAt_84 : decode cX4_findsAt 84 = .ok (.goto 4, 3) := by decide +kernel
theorem dX4_findsAt_87 : decode cX4_findsAt 87 = .ok (.iconst 0, 1) := by decide +kernel
theorem dX4_findsAt_88 : decode cX4_findsAt 88 = .ok (.ireturn, 1) := by decide +kernel
theorem dX4_findsAt_89 : decode cX4_findsAt 89 = .ok (.iconst 0, 1) := by decide +kernel
theorem dX4_findsAt_90 : decode cX4_findsAt 90 = .ok (.ireturn, 1) := by decide +kernel
theorem dX5_init_0 : decode cX5_init 0 = .ok (.aload_n 0, 1) := by decide +kernel
theorem dX5_init_1 : decode cX5_init 1 = .ok (.invokespecial 3, 3) := by decide +kernel
theorem dX5_init_4 : decode cX5_init 4 = .ok (.aload_n 0, 1) := by decide +kernel
theorem dX5_init_5 : decode cX5_init 5 = .ok (.sipush 900, 3) := by decide +kernel
theorem dX5_init_8 : decode cX5_init 8 = .ok (.newarray .byte, 2) := by decide +kernel
theorem dX5_init_10 : decode cX5_init 10 = .ok (.putfield 9, 3) := by decide +kernel
theorem dX5_init_13 : decode cX5_init 13 = .ok (.return_, 1) := by decide +kernel
theorem dX5_add_0 : decode cX5_add 0 = .ok (.bipush 24, 2) := by decide +kernel
theorem dX5_add_2 : decode cX5_add 2 = .ok (.istore_n 2, 1) := by decide +kernel
theorem dX5_add_3 : decode cX5_add 3 = .ok (.iload_n 2, 1) := by decide +kernel
theorem dX5_add_4 : decode cX5_add 4 = .ok (.ifCond .lt 42, 3) := by decide +kernel
theorem dX5_add_7 : decode cX5_add 7 = .ok (.aload_n 0, 1) := by decide +kernel
theorem dX5_add_8 : decode cX5_add 8 = .ok (.getfield 15, 3) := by decide +kernel
theorem dX5_add_11 : decode cX5_add 11 = .ok (.sipush 900, 3) := by decide +kernel
theorem dX5_add_14 : decode cX5_add 14 = .ok (.if_icmp .ge 26, 3) := by decide +kernel
theorem dX5_add_17 : decode cX5_add 17 = .ok (.aload_n 0, 1) := by decide +kernel
theorem dX5_add_18 : decode cX5_add 18 = .ok (.getfield 9, 3) := by decide +kernel
theorem dX5_add_21 : decode cX5_add 21 = .ok (.aload_n 0, 1) := by decide +kernel
theorem dX5_add_22 : decode cX5_add 22 = .ok (.getfield 15, 3) := by decide +kernel
theorem dX5_add_25 : decode cX5_add 25 = .ok (.iload_n 1, 1) := by decide +kernel
theorem dX5_add_26 : decode cX5_add 26 = .ok (.iload_n 2, 1) := by decide +kernel
theorem dX5_add_27 : decode cX5_add 27 = .ok (.ishr, 1) := by decide +kernel
theorem dX5_add_28 : decode cX5_add 28 = .ok (.i2b, 1) := by decide +kernel
theorem dX5_add_29 : decode cX5_add 29 = .ok (.bastore, 1) := by decide +kernel
theorem dX5_add_30 : decode cX5_add 30 = .ok (.aload_n 0, 1) := by decide +kernel
theorem dX5_add_31 : decode cX5_add 31 = .ok (.dup, 1) := by decide +kernel
theorem dX5_add_32 : decode cX5_add 32 = .ok (.getfield 15, 3) := by decide +kernel
theorem dX5_add_35 : decode cX5_add 35 = .ok (.iconst 1, 1) := by decide +kernel
theorem dX5_add_36 : decode cX5_add 36 = .ok (.iadd, 1) := by decide +kernel
theorem dX5_add_37 : decode cX5_add 37 = .ok (.putfield 15, 3) := by decide +kernel
theorem dX5_add_40 : decode cX5_add 40 = .ok (.iinc 2 (-8), 3) := by decide +kernel
theorem dX5_add_43 : decode cX5_add 43 = .ok (.goto (-40), 3) := by decide +kernel
theorem dX5_add_46 : decode cX5_add 46 = .ok (.return_, 1) := by decide +kernel
theorem dX6_init_0 : decode cX6_init 0 = .ok (.aload_n 0, 1) := by decide +kernel
theorem dX6_init_1 : decode cX6_init 1 = .ok (.invokespecial 3, 3) := by decide +kernel
theorem dX6_init_4 : decode cX6_init 4 = .ok (.aload_n 0, 1) := by decide +kernel
theorem dX6_init_5 : decode cX6_init 5 = .ok (.bipush 19, 2) := by decide +kernel
theorem dX6_init_7 : decode cX6_init 7 = .ok (.newarray .long, 2) := by decide +kernel
theorem dX6_init_9 : decode cX6_init 9 = .ok (.putfield 11, 3) := by decide +kernel
theorem dX6_init_12 : decode cX6_init 12 = .ok (.aload_n 0, 1) := by decide +kernel
theorem dX6_init_13 : decode cX6_init 13 = .ok (.iconst 5, 1) := by decide +kernel
theorem dX6_init_14 : decode cX6_init 14 = .ok (.newarray .long, 2) := by decide +kernel
theorem dX6_init_16 : decode cX6_init 16 = .ok (.putfield 15, 3) := by decide +kernel
theorem dX6_init_19 : decode cX6_init 19 = .ok (.aload_n 0, 1) := by decide +kernel
theorem dX6_init_20 : decode cX6_init 20 = .ok (.new 18, 3) := by decide +kernel
theorem dX6_init_23 : decode cX6_init 23 = .ok (.dup, 1) := by decide +kernel
theorem dX6_init_24 : decode cX6_init 24 = .ok (.aload_n 1, 1) := by decide +kernel
theorem dX6_init_25 : decode cX6_init 25 = .ok (.invokespecial 20, 3) := by decide +kernel
theorem dX6_init_28 : decode cX6_init 28 = .ok (.putfield 23, 3) := by decide +kernel
theorem dX6_init_31 : decode cX6_init 31 = .ok (.return_, 1) := by decide +kernel
theorem dX6_tellHill_0 : decode cX6_tellHill 0 = .ok (.aload_n 2, 1) := by decide +kernel
theorem dX6_tellHill_1 : decode cX6_tellHill 1 = .ok (.invokevirtual 27, 3) := by decide +kernel
theorem dX6_tellHill_4 : decode cX6_tellHill 4 = .ok (.aload_n 0, 1) := by decide +kernel
theorem dX6_tellHill_5 : decode cX6_tellHill 5 = .ok (.iconst 0, 1) := by decide +kernel
theorem dX6_tellHill_6 : decode cX6_tellHill 6 = .ok (.putfield 32, 3) := by decide +kernel
theorem dX6_tellHill_9 : decode cX6_tellHill 9 = .ok (.aload_n 0, 1) := by decide +kernel
theorem dX6_tellHill_10 : decode cX6_tellHill 10 = .ok (.iconst 0, 1) := by decide +kernel
theorem dX6_tellHill_11 : decode cX6_tellHill 11 = .ok (.putfield 36, 3) := by decide +kernel
theorem dX6_tellHill_14 : decode cX6_tellHill 14 = .ok (.aload_n 0, 1) := by decide +kernel
theorem dX6_tellHill_15 : decode cX6_tellHill 15 = .ok (.iconst 0, 1) := by decide +kernel
theorem dX6_tellHill_16 : decode cX6_tellHill 16 = .ok (.putfield 39, 3) := by decide +kernel
theorem dX6_tellHill_19 : decode cX6_tellHill 19 = .ok (.aload_n 0, 1) := by decide +kernel
theorem dX6_tellHill_20 : decode cX6_tellHill 20 = .ok (.getfield 23, 3) := by decide +kernel
theorem dX6_tellHill_23 : decode cX6_tellHill 23 = .ok (.iload_n 1, 1) := by decide +kernel
theorem dX6_tellHill_24 : decode cX6_tellHill 24 = .ok (.invokevirtual 42, 3) := by decide +kernel
theorem dX6_tellHill_27 : decode cX6_tellHill 27 = .ok (.iconst 1, 1) := by decide +kernel
theorem dX6_tellHill_28 : decode cX6_tellHill 28 = .ok (.istore_n 3, 1) := by decide +kernel
theorem dX6_tellHill_29 : decode cX6_tellHill 29 = .ok (.iconst 0, 1) := by decide +kernel
theorem dX6_tellHill_30 : decode cX6_tellHill 30 = .ok (.istore 4, 2) := by decide +kernel
theorem dX6_tellHill_32 : decode cX6_tellHill 32 = .ok (.iload_n 3, 1) := by decide +kernel
theorem dX6_tellHill_33 : decode cX6_tellHill 33 = .ok (.ifCond .eq 46, 3) := by decide +kernel
theorem dX6_tellHill_36 : decode cX6_tellHill 36 = .ok (.iload 4, 2) := by decide +kernel
theorem dX6_tellHill_38 : decode cX6_tellHill 38 = .ok (.sipush 900, 3) := by decide +kernel
theorem dX6_tellHill_41 : decode cX6_tellHill 41 = .ok (.if_icmp .gt 38, 3) := by decide +kernel
theorem dX6_tellHill_44 : decode cX6_tellHill 44 = .ok (.aload_n 0, 1) := by decide +kernel
theorem dX6_tellHill_45 : decode cX6_tellHill 45 = .ok (.aload_n 2, 1) := by decide +kernel
theorem dX6_tellHill_46 : decode cX6_tellHill 46 = .ok (.invokevirtual 46, 3) := by decide +kernel
theorem dX6_tellHill_49 : decode cX6_tellHill 49 = .ok (.ifCond .ne 5, 3) := by decide +kernel
theorem dX6_tellHill_52 : decode cX6_tellHill 52 = .ok (.iconst 0, 1) := by decide +kernel
theorem dX6_tellHill_53 : decode cX6_tellHill 53 = .ok (.ireturn, 1) := by decide +kernel
theorem dX6_tellHill_54 : decode cX6_tellHill 54 = .ok (.aload_n 0, 1) := by decide +kernel
theorem dX6_tellHill_55 : decode cX6_tellHill 55 = .ok (.getfield 23, 3) := by decide +kernel
theorem dX6_tellHill_58 : decode cX6_tellHill 58 = .ok (.invokevirtual 50, 3) := by decide +kernel
theorem dX6_tellHill_61 : decode cX6_tellHill 61 = .ok (.istore_n 3, 1) := by decide +kernel
theorem dX6_tellHill_62 : decode cX6_tellHill 62 = .ok (.iload_n 3, 1) := by decide +kernel
theorem dX6_tellHill_63 : decode cX6_tellHill 63 = .ok (.ifCond .eq 10, 3) := by decide +kernel
theorem dX6_tellHill_66 : decode cX6_tellHill 66 = .ok (.aload_n 0, 1) := by decide +kernel
theorem dX6_tellHill_67 : decode cX6_tellHill 67 = .ok (.getfield 23, 3) := by decide +kernel
theorem dX6_tellHill_70 : decode cX6_tellHill 70 = .ok (.invokevirtual 54, 3) := by decide +kernel
theorem dX6_tellHill_73 : decode cX6_tellHill 73 = .ok (.iinc 4 1, 3) := by decide +kernel
theorem dX6_tellHill_76 : decode cX6_tellHill 76 = .ok (.goto (-44), 3) := by decide +kernel
theorem dX6_tellHill_79 : decode cX6_tellHill 79 = .ok (.aload_n 0, 1) := by decide +kernel
theorem dX6_tellHill_80 : decode cX6_tellHill 80 = .ok (.getfield 23, 3) := by decide +kernel
theorem dX6_tellHill_83 : decode cX6_tellHill 83 = .ok (.invokevirtual 57, 3) := by decide +kernel
theorem dX6_tellHill_86 : decode cX6_tellHill 86 = .ok (.ifCond .ne 9, 3) := by decide +kernel
theorem dX6_tellHill_89 : decode cX6_tellHill 89 = .ok (.aload_n 0, 1) := by decide +kernel
theorem dX6_tellHill_90 : decode cX6_tellHill 90 = .ok (.iconst 1, 1) := by decide +kernel
theorem dX6_tellHill_91 : decode cX6_tellHill 91 = .ok (.invokevirtual 60, 3) := by decide +kernel
theorem dX6_tellHill_94 : decode cX6_tellHill 94 = .ok (.ireturn, 1) := by decide +kernel
theorem dX6_tellHill_95 : decode cX6_tellHill 95 = .ok (.aload_n 2, 1) := by decide +kernel
theorem dX6_tellHill_96 : decode cX6_tellHill 96 = .ok (.getfield 64, 3) := by decide +kernel
theorem dX6_tellHill_99 : decode cX6_tellHill 99 = .ok (.getfield 68, 3) := by decide +kernel
theorem dX6_tellHill_102 : decode cX6_tellHill 102 = .ok (.ifCond .eq 17, 3) := by decide +kernel
theorem dX6_tellHill_105 : decode cX6_tellHill 105 = .ok (.aload_n 2, 1) := by decide +kernel
theorem dX6_tellHill_106 : decode cX6_tellHill 106 = .ok (.getfield 74, 3) := by decide +kernel
theorem dX6_tellHill_109 : decode cX6_tellHill 109 = .ok (.ifCond .eq 10, 3) := by decide +kernel
theorem dX6_tellHill_112 : decode cX6_tellHill 112 = .ok (.aload_n 2, 1) := by decide +kernel
theorem dX6_tellHill_113 : decode cX6_tellHill 113 = .ok (.getfield 77, 3) := by decide +kernel
theorem dX6_tellHill_116 : decode cX6_tellHill 116 = .ok (.ifCond .ne 10, 3) := by decide +kernel
theorem dX6_tellHill_119 : decode cX6_tellHill 119 = .ok (.aload_n 0, 1) := by decide +kernel
theorem dX6_tellHill_120 : decode cX6_tellHill 120 = .ok (.bipush 6, 2) := by decide +kernel
theorem dX6_tellHill_122 : decode cX6_tellHill 122 = .ok (.invokevirtual 60, 3) := by decide +kernel
theorem dX6_tellHill_125 : decode cX6_tellHill 125 = .ok (.ireturn, 1) := by decide +kernel
theorem dX6_tellHill_126 : decode cX6_tellHill 126 = .ok (.iconst 1, 1) := by decide +kernel
theorem dX6_tellHill_127 : decode cX6_tellHill 127 = .ok (.ireturn, 1) := by decide +kernel
theorem dX6_takeLine_0 : decode cX6_takeLine 0 = .ok (.aload_n 0, 1) := by decide +kernel
theorem dX6_takeLine_1 : decode cX6_takeLine 1 = .ok (.getfield 23, 3) := by decide +kernel
theorem dX6_takeLine_4 : decode cX6_takeLine 4 = .ok (.ldc 80, 2) := by decide +kernel
theorem dX6_takeLine_6 : decode cX6_takeLine 6 = .ok (.invokevirtual 81, 3) := by decide +kernel
theorem dX6_takeLine_9 : decode cX6_takeLine 9 = .ok (.ifCond .eq 12, 3) := by decide +kernel
theorem dX6_takeLine_12 : decode cX6_takeLine 12 = .ok (.aload_n 0, 1) := by decide +kernel
theorem dX6_takeLine_13 : decode cX6_takeLine 13 = .ok (.aload_n 1, 1) := by decide +kernel
theorem dX6_takeLine_14 : decode cX6_takeLine 14 = .ok (.getfield 64, 3) := by decide +kernel
theorem dX6_takeLine_17 : decode cX6_takeLine 17 = .ok (.invokevirtual 85, 3) := by decide +kernel
theorem dX6_takeLine_20 : decode cX6_takeLine 20 = .ok (.ireturn, 1) := by decide +kernel
theorem dX6_takeLine_21 : decode cX6_takeLine 21 = .ok (.aload_n 0, 1) := by decide +kernel
theorem dX6_takeLine_22 : decode cX6_takeLine 22 = .ok (.getfield 23, 3) := by decide +kernel
theorem dX6_takeLine_25 : decode cX6_takeLine 25 = .ok (.ldc 89, 2) := by decide +kernel
theorem dX6_takeLine_27 : decode cX6_takeLine 27 = .ok (.invokevirtual 81, 3) := by decide +kernel
theorem dX6_takeLine_30 : decode cX6_takeLine 30 = .ok (.ifCond .eq 9, 3) := by decide +kernel
theorem dX6_takeLine_33 : decode cX6_takeLine 33 = .ok (.aload_n 0, 1) := by decide +kernel
theorem dX6_takeLine_34 : decode cX6_takeLine 34 = .ok (.aload_n 1, 1) := by decide +kernel
theorem dX6_takeLine_35 : decode cX6_takeLine 35 = .ok (.invokevirtual 91, 3) := by decide +kernel
theorem dX6_takeLine_38 : decode cX6_takeLine 38 = .ok (.ireturn, 1) := by decide +kernel
theorem dX6_takeLine_39 : decode cX6_takeLine 39 = .ok (.aload_n 0, 1) := by decide +kernel
theorem dX6_takeLine_40 : decode cX6_takeLine 40 = .ok (.getfield 23, 3) := by decide +kernel
theorem dX6_takeLine_43 : decode cX6_takeLine 43 = .ok (.ldc 94, 2) := by decide +kernel
theorem dX6_takeLine_45 : decode cX6_takeLine 45 = .ok (.invokevirtual 81, 3) := by decide +kernel
theorem dX6_takeLine_48 : decode cX6_takeLine 48 = .ok (.ifCond .eq 12, 3) := by decide +kernel
theorem dX6_takeLine_51 : decode cX6_takeLine 51 = .ok (.aload_n 0, 1) := by decide +kernel
theorem dX6_takeLine_52 : decode cX6_takeLine 52 = .ok (.aload_n 1, 1) := by decide +kernel
theorem dX6_takeLine_53 : decode cX6_takeLine 53 = .ok (.getfield 64, 3) := by decide +kernel
theorem dX6_takeLine_56 : decode cX6_takeLine 56 = .ok (.invokevirtual 96, 3) := by decide +kernel
theorem dX6_takeLine_59 : decode cX6_takeLine 59 = .ok (.ireturn, 1) := by decide +kernel
theorem dX6_takeLine_60 : decode cX6_takeLine 60 = .ok (.aload_n 0, 1) := by decide +kernel
theorem dX6_takeLine_61 : decode cX6_takeLine 61 = .ok (.getfield 23, 3) := by decide +kernel
theorem dX6_takeLine_64 : decode cX6_takeLine 64 = .ok (.ldc 99, 2) := by decide +kernel
theorem dX6_takeLine_66 : decode cX6_takeLine 66 = .ok (.invokevirtual 81, 3) := by decide +kernel
theorem dX6_takeLine_69 : decode cX6_takeLine 69 = .ok (.ifCond .eq 9, 3) := by decide +kernel
theorem dX6_takeLine_72 : decode cX6_takeLine 72 = .ok (.aload_n 0, 1) := by decide +kernel
theorem dX6_takeLine_73 : decode cX6_takeLine 73 = .ok (.aload_n 1, 1) := by decide +kernel
theorem dX6_takeLine_74 : decode cX6_takeLine 74 = .ok (.invokevirtual 101, 3) := by decide +kernel
theorem dX6_takeLine_77 : decode cX6_takeLine 77 = .ok (.ireturn, 1) := by decide +kernel
theorem dX6_takeLine_78 : decode cX6_takeLine 78 = .ok (.aload_n 0, 1) := by decide +kernel
theorem dX6_takeLine_79 : decode cX6_takeLine 79 = .ok (.getfield 23, 3) := by decide +kernel
theorem dX6_takeLine_82 : decode cX6_takeLine 82 = .ok (.ldc 104, 2) := by decide +kernel
theorem dX6_takeLine_84 : decode cX6_takeLine 84 = .ok (.invokevirtual 81, 3) := by decide +kernel
theorem dX6_takeLine_87 : decode cX6_takeLine 87 = .ok (.ifCond .eq 9, 3) := by decide +kernel
theorem dX6_takeLine_90 : decode cX6_takeLine 90 = .ok (.aload_n 0, 1) := by decide +kernel
theorem dX6_takeLine_91 : decode cX6_takeLine 91 = .ok (.aload_n 1, 1) := by decide +kernel
theorem dX6_takeLine_92 : decode cX6_takeLine 92 = .ok (.invokevirtual 106, 3) := by decide +kernel
theorem dX6_takeLine_95 : decode cX6_takeLine 95 = .ok (.ireturn, 1) := by decide +kernel
theorem dX6_takeLine_96 : decode cX6_takeLine 96 = .ok (.aload_n 0, 1) := by decide +kernel
theorem dX6_takeLine_97 : decode cX6_takeLine 97 = .ok (.getfield 23, 3) := by decide +kernel
theorem dX6_takeLine_100 : decode cX6_takeLine 100 = .ok (.ldc 109, 2) := by decide +kernel
theorem dX6_takeLine_102 : decode cX6_takeLine 102 = .ok (.invokevirtual 81, 3) := by decide +kernel
theorem dX6_takeLine_105 : decode cX6_takeLine 105 = .ok (.ifCond .eq 9, 3) := by decide +kernel
theorem dX6_takeLine_108 : decode cX6_takeLine 108 = .ok (.aload_n 0, 1) := by decide +kernel
theorem dX6_takeLine_109 : decode cX6_takeLine 109 = .ok (.aload_n 1, 1) := by decide +kernel
theorem dX6_takeLine_110 : decode cX6_takeLine 110 = .ok (.invokevirtual 111, 3) := by decide +kernel
theorem dX6_takeLine_113 : decode cX6_takeLine 113 = .ok (.ireturn, 1) := by decide +kernel
theorem dX6_takeLine_114 : decode cX6_takeLine 114 = .ok (.aload_n 0, 1) := by decide +kernel
theorem dX6_takeLine_115 : decode cX6_takeLine 115 = .ok (.getfield 23, 3) := by decide +kernel
theorem dX6_takeLine_118 : decode cX6_takeLine 118 = .ok (.ldc 114, 2) := by decide +kernel
theorem dX6_takeLine_120 : decode cX6_takeLine 120 = .ok (.invokevirtual 81, 3) := by decide +kernel
theorem dX6_takeLine_123 : decode cX6_takeLine 123 = .ok (.ifCond .eq 9, 3) := by decide +kernel
theorem dX6_takeLine_126 : decode cX6_takeLine 126 = .ok (.aload_n 0, 1) := by decide +kernel
theorem dX6_takeLine_127 : decode cX6_takeLine 127 = .ok (.aload_n 1, 1) := by decide +kernel
theorem dX6_takeLine_128 : decode cX6_takeLine 128 = .ok (.invokevirtual 116, 3) := by decide +kernel
theorem dX6_takeLine_131 : decode cX6_takeLine 131 = .ok (.ireturn, 1) := by decide +kernel
theorem dX6_takeLine_132 : decode cX6_takeLine 132 = .ok (.aload_n 0, 1) := by decide +kernel
theorem dX6_takeLine_133 : decode cX6_takeLine 133 = .ok (.iconst 1, 1) := by decide +kernel
theorem dX6_takeLine_134 : decode cX6_takeLine 134 = .ok (.invokevirtual 60, 3) := by decide +kernel
theorem dX6_takeLine_137 : decode cX6_takeLine 137 = .ok (.ireturn, 1) := by decide +kernel
theorem dX6_takeLake_0 : decode cX6_takeLake 0 = .ok (.aload_n 1, 1) := by decide +kernel
theorem dX6_takeLake_1 : decode cX6_takeLake 1 = .ok (.getfield 68, 3) := by decide +kernel
theorem dX6_takeLake_4 : decode cX6_takeLake 4 = .ok (.ifCond .eq 9, 3) := by decide +kernel
theorem dX6_takeLake_7 : decode cX6_takeLake 7 = .ok (.aload_n 0, 1) := by decide +kernel
theorem dX6_takeLake_8 : decode cX6_takeLake 8 = .ok (.iconst 3, 1) := by decide +kernel
theorem dX6_takeLake_9 : decode cX6_takeLake 9 = .ok (.invokevirtual 60, 3) := by decide +kernel
theorem dX6_takeLake_12 : decode cX6_takeLake 12 = .ok (.ireturn, 1) := by decide +kernel
theorem dX6_takeLake_13 : decode cX6_takeLake 13 = .ok (.aload_n 0, 1) := by decide +kernel
theorem dX6_takeLake_14 : decode cX6_takeLake 14 = .ok (.getfield 23, 3) := by decide +kernel
theorem dX6_takeLake_17 : decode cX6_takeLake 17 = .ok (.invokevirtual 54, 3) := by decide +kernel
theorem dX6_takeLake_20 : decode cX6_takeLake 20 = .ok (.aload_n 0, 1) := by decide +kernel
theorem dX6_takeLake_21 : decode cX6_takeLake 21 = .ok (.ldc 119, 2) := by decide +kernel
theorem dX6_takeLake_23 : decode cX6_takeLake 23 = .ok (.iconst 0, 1) := by decide +kernel
theorem dX6_takeLake_24 : decode cX6_takeLake 24 = .ok (.sipush 500, 3) := by decide +kernel
theorem dX6_takeLake_27 : decode cX6_takeLake 27 = .ok (.invokevirtual 121, 3) := by decide +kernel
theorem dX6_takeLake_30 : decode cX6_takeLake 30 = .ok (.ifCond .ne 5, 3) := by decide +kernel
theorem dX6_takeLake_33 : decode cX6_takeLake 33 = .ok (.iconst 0, 1) := by decide +kernel
theorem dX6_takeLake_34 : decode cX6_takeLake 34 = .ok (.ireturn, 1) := by decide +kernel
theorem dX6_takeLake_35 : decode cX6_takeLake 35 = .ok (.aload_n 1, 1) := by decide +kernel
theorem dX6_takeLake_36 : decode cX6_takeLake 36 = .ok (.aload_n 0, 1) := by decide +kernel
theorem dX6_takeLake_37 : decode cX6_takeLake 37 = .ok (.getfield 125, 3) := by decide +kernel
theorem dX6_takeLake_40 : decode cX6_takeLake 40 = .ok (.putfield 128, 3) := by decide +kernel
theorem dX6_takeLake_43 : decode cX6_takeLake 43 = .ok (.aload_n 0, 1) := by decide +kernel
theorem dX6_takeLake_44 : decode cX6_takeLake 44 = .ok (.ldc 130, 2) := by decide +kernel
theorem dX6_takeLake_46 : decode cX6_takeLake 46 = .ok (.iconst 1, 1) := by decide +kernel
theorem dX6_takeLake_47 : decode cX6_takeLake 47 = .ok (.bipush 50, 2) := by decide +kernel
theorem dX6_takeLake_49 : decode cX6_takeLake 49 = .ok (.invokevirtual 121, 3) := by decide +kernel
theorem dX6_takeLake_52 : decode cX6_takeLake 52 = .ok (.ifCond .ne 5, 3) := by decide +kernel
theorem dX6_takeLake_55 : decode cX6_takeLake 55 = .ok (.iconst 0, 1) := by decide +kernel
theorem dX6_takeLake_56 : decode cX6_takeLake 56 = .ok (.ireturn, 1) := by decide +kernel
theorem dX6_takeLake_57 : decode cX6_takeLake 57 = .ok (.aload_n 1, 1) := by decide +kernel
theorem dX6_takeLake_58 : decode cX6_takeLake 58 = .ok (.aload_n 0, 1) := by decide +kernel
theorem dX6_takeLake_59 : decode cX6_takeLake 59 = .ok (.getfield 125, 3) := by decide +kernel
theorem dX6_takeLake_62 : decode cX6_takeLake 62 = .ok (.putfield 132, 3) := by decide +kernel
theorem dX6_takeLake_65 : decode cX6_takeLake 65 = .ok (.aload_n 0, 1) := by decide +kernel
theorem dX6_takeLake_66 : decode cX6_takeLake 66 = .ok (.ldc 134, 2) := by decide +kernel
theorem dX6_takeLake_68 : decode cX6_takeLake 68 = .ok (.iconst 1, 1) := by decide +kernel
theorem dX6_takeLake_69 : decode cX6_takeLake 69 = .ok (.aload_n 1, 1) := by decide +kernel
theorem dX6_takeLake_70 : decode cX6_takeLake 70 = .ok (.getfield 128, 3) := by decide +kernel
theorem dX6_takeLake_73 : decode cX6_takeLake 73 = .ok (.invokestatic 136, 3) := by decide +kernel
theorem dX6_takeLake_76 : decode cX6_takeLake 76 = .ok (.sipush 999, 3) := by decide +kernel
theorem dX6_takeLake_79 : decode cX6_takeLake 79 = .ok (.invokevirtual 121, 3) := by decide +kernel
theorem dX6_takeLake_82 : decode cX6_takeLake 82 = .ok (.ifCond .ne 5, 3) := by decide +kernel
theorem dX6_takeLake_85 : decode cX6_takeLake 85 = .ok (.iconst 0, 1) := by decide +kernel
theorem dX6_takeLake_86 : decode cX6_takeLake 86 = .ok (.ireturn, 1) := by decide +kernel
theorem dX6_takeLake_87 : decode cX6_takeLake 87 = .ok (.aload_n 1, 1) := by decide +kernel
theorem dX6_takeLake_88 : decode cX6_takeLake 88 = .ok (.aload_n 0, 1) := by decide +kernel
theorem dX6_takeLake_89 : decode cX6_takeLake 89 = .ok (.getfield 125, 3) := by decide +kernel
theorem dX6_takeLake_92 : decode cX6_takeLake 92 = .ok (.putfield 142, 3) := by decide +kernel
theorem dX6_takeLake_95 : decode cX6_takeLake 95 = .ok (.aload_n 1, 1) := by decide +kernel
theorem dX6_takeLake_96 : decode cX6_takeLake 96 = .ok (.iconst 1, 1) := by decide +kernel
theorem dX6_takeLake_97 : decode cX6_takeLake 97 = .ok (.putfield 68, 3) := by decide +kernel
theorem dX6_takeLake_100 : decode cX6_takeLake 100 = .ok (.iconst 1, 1) := by decide +kernel
theorem dX6_takeLake_101 : decode cX6_takeLake 101 = .ok (.ireturn, 1) := by decide +kernel
theorem dX6_takePeg_0 : decode cX6_takePeg 0 = .ok (.aload_n 1, 1) := by decide +kernel
theorem dX6_takePeg_1 : decode cX6_takePeg 1 = .ok (.getfield 74, 3) := by decide +kernel
theorem dX6_takePeg_4 : decode cX6_takePeg 4 = .ok (.istore_n 2, 1) := by decide +kernel
theorem dX6_takePeg_5 : decode cX6_takePeg 5 = .ok (.iload_n 2, 1) := by decide +kernel
theorem dX6_takePeg_6 : decode cX6_takePeg 6 = .ok (.iconst 5, 1) := by decide +kernel
theorem dX6_takePeg_7 : decode cX6_takePeg 7 = .ok (.if_icmp .lt 9, 3) := by decide +kernel
theorem dX6_takePeg_10 : decode cX6_takePeg 10 = .ok (.aload_n 0, 1) := by decide +kernel
theorem dX6_takePeg_11 : decode cX6_takePeg 11 = .ok (.iconst 5, 1) := by decide +kernel
theorem dX6_takePeg_12 : decode cX6_takePeg 12 = .ok (.invokevirtual 60, 3) := by decide +kernel
theorem dX6_takePeg_15 : decode cX6_takePeg 15 = .ok (.ireturn, 1) := by decide +kernel
theorem dX6_takePeg_16 : decode cX6_takePeg 16 = .ok (.aload_n 0, 1) := by decide +kernel
theorem dX6_takePeg_17 : decode cX6_takePeg 17 = .ok (.getfield 23, 3) := by decide +kernel
theorem dX6_takePeg_20 : decode cX6_takePeg 20 = .ok (.invokevirtual 54, 3) := by decide +kernel
theorem dX6_takePeg_23 : decode cX6_takePeg 23 = .ok (.aload_n 0, 1) := by decide +kernel
theorem dX6_takePeg_24 : decode cX6_takePeg 24 = .ok (.getfield 15, 3) := by decide +kernel
theorem dX6_takePeg_27 : decode cX6_takePeg 27 = .ok (.iload_n 2, 1) := by decide +kernel
theorem dX6_takePeg_28 : decode cX6_takePeg 28 = .ok (.aload_n 0, 1) := by decide +kernel
theorem dX6_takePeg_29 : decode cX6_takePeg 29 = .ok (.getfield 23, 3) := by decide +kernel
theorem dX6_takePeg_32 : decode cX6_takePeg 32 = .ok (.getfield 144, 3) := by decide +kernel
theorem dX6_takePeg_35 : decode cX6_takePeg 35 = .ok (.lastore, 1) := by decide +kernel
theorem dX6_takePeg_36 : decode cX6_takePeg 36 = .ok (.aload_n 0, 1) := by decide +kernel
theorem dX6_takePeg_37 : decode cX6_takePeg 37 = .ok (.invokevirtual 148, 3) := by decide +kernel
theorem dX6_takePeg_40 : decode cX6_takePeg 40 = .ok (.ifCond .eq 16, 3) := by decide +kernel
theorem dX6_takePeg_43 : decode cX6_takePeg 43 = .ok (.aload_n 0, 1) := by decide +kernel
theorem dX6_takePeg_44 : decode cX6_takePeg 44 = .ok (.ldc 151, 2) := by decide +kernel
theorem dX6_takePeg_46 : decode cX6_takePeg 46 = .ok (.iconst 0, 1) := by decide +kernel
theorem dX6_takePeg_47 : decode cX6_takePeg 47 = .ok (.sipush 999, 3) := by decide +kernel
theorem dX6_takePeg_50 : decode cX6_takePeg 50 = .ok (.invokevirtual 121, 3) := by decide +kernel
theorem dX6_takePeg_53 : decode cX6_takePeg 53 = .ok (.ifCond .ne 5, 3) := by decide +kernel
theorem dX6_takePeg_56 : decode cX6_takePeg 56 = .ok (.iconst 0, 1) := by decide +kernel
theorem dX6_takePeg_57 : decode cX6_takePeg 57 = .ok (.ireturn, 1) := by decide +kernel
theorem dX6_takePeg_58 : decode cX6_takePeg 58 = .ok (.aload_n 1, 1) := by decide +kernel
theorem dX6_takePeg_59 : decode cX6_takePeg 59 = .ok (.getfield 153, 3) := by decide +kernel
theorem dX6_takePeg_62 : decode cX6_takePeg 62 = .ok (.iload_n 2, 1) := by decide +kernel
theorem dX6_takePeg_63 : decode cX6_takePeg 63 = .ok (.aload_n 0, 1) := by decide +kernel
theorem dX6_takePeg_64 : decode cX6_takePeg 64 = .ok (.getfield 125, 3) := by decide +kernel
theorem dX6_takePeg_67 : decode cX6_takePeg 67 = .ok (.iastore, 1) := by decide +kernel
theorem dX6_takePeg_68 : decode cX6_takePeg 68 = .ok (.aload_n 0, 1) := by decide +kernel
theorem dX6_takePeg_69 : decode cX6_takePeg 69 = .ok (.ldc 156, 2) := by decide +kernel
theorem dX6_takePeg_71 : decode cX6_takePeg 71 = .ok (.iconst 0, 1) := by decide +kernel
theorem dX6_takePeg_72 : decode cX6_takePeg 72 = .ok (.sipush 999, 3) := by decide +kernel
theorem dX6_takePeg_75 : decode cX6_takePeg 75 = .ok (.invokevirtual 121, 3) := by decide +kernel
theorem dX6_takePeg_78 : decode cX6_takePeg 78 = .ok (.ifCond .ne 5, 3) := by decide +kernel
theorem dX6_takePeg_81 : decode cX6_takePeg 81 = .ok (.iconst 0, 1) := by decide +kernel
theorem dX6_takePeg_82 : decode cX6_takePeg 82 = .ok (.ireturn, 1) := by decide +kernel
theorem dX6_takePeg_83 : decode cX6_takePeg 83 = .ok (.aload_n 1, 1) := by decide +kernel
theorem dX6_takePeg_84 : decode cX6_takePeg 84 = .ok (.getfield 158, 3) := by decide +kernel
theorem dX6_takePeg_87 : decode cX6_takePeg 87 = .ok (.iload_n 2, 1) := by decide +kernel
theorem dX6_takePeg_88 : decode cX6_takePeg 88 = .ok (.aload_n 0, 1) := by decide +kernel
theorem dX6_takePeg_89 : decode cX6_takePeg 89 = .ok (.getfield 125, 3) := by decide +kernel
theorem dX6_takePeg_92 : decode cX6_takePeg 92 = .ok (.iastore, 1) := by decide +kernel
theorem dX6_takePeg_93 : decode cX6_takePeg 93 = .ok (.aload_n 1, 1) := by decide +kernel
theorem dX6_takePeg_94 : decode cX6_takePeg 94 = .ok (.dup, 1) := by decide +kernel
theorem dX6_takePeg_95 : decode cX6_takePeg 95 = .ok (.getfield 74, 3) := by decide +kernel
theorem dX6_takePeg_98 : decode cX6_takePeg 98 = .ok (.iconst 1, 1) := by decide +kernel
theorem dX6_takePeg_99 : decode cX6_takePeg 99 = .ok (.iadd, 1) := by decide +kernel
theorem dX6_takePeg_100 : decode cX6_takePeg 100 = .ok (.putfield 74, 3) := by decide +kernel
theorem dX6_takePeg_103 : decode cX6_takePeg 103 = .ok (.iconst 1, 1) := by decide +kernel
theorem dX6_takePeg_104 : decode cX6_takePeg 104 = .ok (.ireturn, 1) := by decide +kernel
theorem dX6_takeFrom_0 : decode cX6_takeFrom 0 = .ok (.aload_n 1, 1) := by decide +kernel
theorem dX6_takeFrom_1 : decode cX6_takeFrom 1 = .ok (.getfield 160, 3) := by decide +kernel
theorem dX6_takeFrom_4 : decode cX6_takeFrom 4 = .ok (.bipush 8, 2) := by decide +kernel
theorem dX6_takeFrom_6 : decode cX6_takeFrom 6 = .ok (.if_icmp .lt 9, 3) := by decide +kernel
theorem dX6_takeFrom_9 : decode cX6_takeFrom 9 = .ok (.aload_n 0, 1) := by decide +kernel
theorem dX6_takeFrom_10 : decode cX6_takeFrom 10 = .ok (.iconst 5, 1) := by decide +kernel
theorem dX6_takeFrom_11 : decode cX6_takeFrom 11 = .ok (.invokevirtual 60, 3) := by decide +kernel
theorem dX6_takeFrom_14 : decode cX6_takeFrom 14 = .ok (.ireturn, 1) := by decide +kernel
theorem dX6_takeFrom_15 : decode cX6_takeFrom 15 = .ok (.aload_n 0, 1) := by decide +kernel
theorem dX6_takeFrom_16 : decode cX6_takeFrom 16 = .ok (.getfield 23, 3) := by decide +kernel
theorem dX6_takeFrom_19 : decode cX6_takeFrom 19 = .ok (.invokevirtual 54, 3) := by decide +kernel
theorem dX6_takeFrom_22 : decode cX6_takeFrom 22 = .ok (.aload_n 0, 1) := by decide +kernel
theorem dX6_takeFrom_23 : decode cX6_takeFrom 23 = .ok (.iconst 0, 1) := by decide +kernel
theorem dX6_takeFrom_24 : decode cX6_takeFrom 24 = .ok (.bipush 59, 2) := by decide +kernel
theorem dX6_takeFrom_26 : decode cX6_takeFrom 26 = .ok (.invokevirtual 163, 3) := by decide +kernel
theorem dX6_takeFrom_29 : decode cX6_takeFrom 29 = .ok (.ifCond .ne 5, 3) := by decide +kernel
theorem dX6_takeFrom_32 : decode cX6_takeFrom 32 = .ok (.iconst 0, 1) := by decide +kernel
theorem dX6_takeFrom_33 : decode cX6_takeFrom 33 = .ok (.ireturn, 1) := by decide +kernel
theorem dX6_takeFrom_34 : decode cX6_takeFrom 34 = .ok (.aload_n 0, 1) := by decide +kernel
theorem dX6_takeFrom_35 : decode cX6_takeFrom 35 = .ok (.getfield 125, 3) := by decide +kernel
theorem dX6_takeFrom_38 : decode cX6_takeFrom 38 = .ok (.istore_n 2, 1) := by decide +kernel
theorem dX6_takeFrom_39 : decode cX6_takeFrom 39 = .ok (.aload_n 0, 1) := by decide +kernel
theorem dX6_takeFrom_40 : decode cX6_takeFrom 40 = .ok (.ldc 167, 2) := by decide +kernel
theorem dX6_takeFrom_42 : decode cX6_takeFrom 42 = .ok (.iconst 0, 1) := by decide +kernel
theorem dX6_takeFrom_43 : decode cX6_takeFrom 43 = .ok (.sipush 999, 3) := by decide +kernel
theorem dX6_takeFrom_46 : decode cX6_takeFrom 46 = .ok (.invokevirtual 121, 3) := by decide +kernel
theorem dX6_takeFrom_49 : decode cX6_takeFrom 49 = .ok (.ifCond .ne 5, 3) := by decide +kernel
theorem dX6_takeFrom_52 : decode cX6_takeFrom 52 = .ok (.iconst 0, 1) := by decide +kernel
theorem dX6_takeFrom_53 : decode cX6_takeFrom 53 = .ok (.ireturn, 1) := by decide +kernel
theorem dX6_takeFrom_54 : decode cX6_takeFrom 54 = .ok (.aload_n 1, 1) := by decide +kernel
theorem dX6_takeFrom_55 : decode cX6_takeFrom 55 = .ok (.iload_n 2, 1) := by decide +kernel
theorem dX6_takeFrom_56 : decode cX6_takeFrom 56 = .ok (.aload_n 0, 1) := by decide +kernel
theorem dX6_takeFrom_57 : decode cX6_takeFrom 57 = .ok (.getfield 125, 3) := by decide +kernel
theorem dX6_takeFrom_60 : decode cX6_takeFrom 60 = .ok (.invokevirtual 169, 3) := by decide +kernel
theorem dX6_takeFrom_63 : decode cX6_takeFrom 63 = .ok (.iconst 1, 1) := by decide +kernel
theorem dX6_takeFrom_64 : decode cX6_takeFrom 64 = .ok (.ireturn, 1) := by decide +kernel
theorem dX6_takeRain_0 : decode cX6_takeRain 0 = .ok (.aload_n 1, 1) := by decide +kernel
theorem dX6_takeRain_1 : decode cX6_takeRain 1 = .ok (.getfield 173, 3) := by decide +kernel
theorem dX6_takeRain_4 : decode cX6_takeRain 4 = .ok (.bipush 6, 2) := by decide +kernel
theorem dX6_takeRain_6 : decode cX6_takeRain 6 = .ok (.if_icmp .lt 9, 3) := by decide +kernel
theorem dX6_takeRain_9 : decode cX6_takeRain 9 = .ok (.aload_n 0, 1) := by decide +kernel
theorem dX6_takeRain_10 : decode cX6_takeRain 10 = .ok (.iconst 5, 1) := by decide +kernel
theorem dX6_takeRain_11 : decode cX6_takeRain 11 = .ok (.invokevirtual 60, 3) := by decide +kernel
theorem dX6_takeRain_14 : decode cX6_takeRain 14 = .ok (.ireturn, 1) := by decide +kernel
theorem dX6_takeRain_15 : decode cX6_takeRain 15 = .ok (.aload_n 0, 1) := by decide +kernel
theorem dX6_takeRain_16 : decode cX6_takeRain 16 = .ok (.getfield 23, 3) := by decide +kernel
theorem dX6_takeRain_19 : decode cX6_takeRain 19 = .ok (.invokevirtual 54, 3) := by decide +kernel
theorem dX6_takeRain_22 : decode cX6_takeRain 22 = .ok (.aload_n 0, 1) := by decide +kernel
theorem dX6_takeRain_23 : decode cX6_takeRain 23 = .ok (.iconst 0, 1) := by decide +kernel
theorem dX6_takeRain_24 : decode cX6_takeRain 24 = .ok (.bipush 59, 2) := by decide +kernel
theorem dX6_takeRain_26 : decode cX6_takeRain 26 = .ok (.invokevirtual 163, 3) := by decide +kernel
theorem dX6_takeRain_29 : decode cX6_takeRain 29 = .ok (.ifCond .ne 5, 3) := by decide +kernel
theorem dX6_takeRain_32 : decode cX6_takeRain 32 = .ok (.iconst 0, 1) := by decide +kernel
theorem dX6_takeRain_33 : decode cX6_takeRain 33 = .ok (.ireturn, 1) := by decide +kernel
theorem dX6_takeRain_34 : decode cX6_takeRain 34 = .ok (.aload_n 0, 1) := by decide +kernel
theorem dX6_takeRain_35 : decode cX6_takeRain 35 = .ok (.getfield 125, 3) := by decide +kernel
theorem dX6_takeRain_38 : decode cX6_takeRain 38 = .ok (.istore_n 2, 1) := by decide +kernel
theorem dX6_takeRain_39 : decode cX6_takeRain 39 = .ok (.aload_n 0, 1) := by decide +kernel
theorem dX6_takeRain_40 : decode cX6_takeRain 40 = .ok (.ldc 176, 2) := by decide +kernel
theorem dX6_takeRain_42 : decode cX6_takeRain 42 = .ok (.iconst 1, 1) := by decide +kernel
theorem dX6_takeRain_43 : decode cX6_takeRain 43 = .ok (.bipush 99, 2) := by decide +kernel
theorem dX6_takeRain_45 : decode cX6_takeRain 45 = .ok (.invokevirtual 121, 3) := by decide +kernel
theorem dX6_takeRain_48 : decode cX6_takeRain 48 = .ok (.ifCond .ne 5, 3) := by decide +kernel
theorem dX6_takeRain_51 : decode cX6_takeRain 51 = .ok (.iconst 0, 1) := by decide +kernel
theorem dX6_takeRain_52 : decode cX6_takeRain 52 = .ok (.ireturn, 1) := by decide +kernel
theorem dX6_takeRain_53 : decode cX6_takeRain 53 = .ok (.aload_n 1, 1) := by decide +kernel
theorem dX6_takeRain_54 : decode cX6_takeRain 54 = .ok (.getfield 178, 3) := by decide +kernel
theorem dX6_takeRain_57 : decode cX6_takeRain 57 = .ok (.iload_n 2, 1) := by decide +kernel
theorem dX6_takeRain_58 : decode cX6_takeRain 58 = .ok (.dup2, 1) := by decide +kernel
theorem dX6_takeRain_59 : decode cX6_takeRain 59 = .ok (.iaload, 1) := by decide +kernel
theorem dX6_takeRain_60 : decode cX6_takeRain 60 = .ok (.aload_n 0, 1) := by decide +kernel
theorem dX6_takeRain_61 : decode cX6_takeRain 61 = .ok (.getfield 125, 3) := by decide +kernel
theorem dX6_takeRain_64 : decode cX6_takeRain 64 = .ok (.iadd, 1) := by decide +kernel
theorem dX6_takeRain_65 : decode cX6_takeRain 65 = .ok (.iastore, 1) := by decide +kernel
theorem dX6_takeRain_66 : decode cX6_takeRain 66 = .ok (.aload_n 1, 1) := by decide +kernel
theorem dX6_takeRain_67 : decode cX6_takeRain 67 = .ok (.dup, 1) := by decide +kernel
theorem dX6_takeRain_68 : decode cX6_takeRain 68 = .ok (.getfield 173, 3) := by decide +kernel
theorem dX6_takeRain_71 : decode cX6_takeRain 71 = .ok (.iconst 1, 1) := by decide +kernel
theorem dX6_takeRain_72 : decode cX6_takeRain 72 = .ok (.iadd, 1) := by decide +kernel
theorem dX6_takeRain_73 : decode cX6_takeRain 73 = .ok (.putfield 173, 3) := by decide +kernel
theorem dX6_takeRain_76 : decode cX6_takeRain 76 = .ok (.iconst 1, 1) := by decide +kernel
theorem dX6_takeRain_77 : decode cX6_takeRain 77 = .ok (.ireturn, 1) := by decide +kernel
theorem dX6_takeStory_0 : decode cX6_takeStory 0 = .ok (.aload_n 1, 1) := by decide +kernel
theorem dX6_takeStory_1 : decode cX6_takeStory 1 = .ok (.getfield 77, 3) := by decide +kernel
theorem dX6_takeStory_4 : decode cX6_takeStory 4 = .ok (.bipush 6, 2) := by decide +kernel
theorem dX6_takeStory_6 : decode cX6_takeStory 6 = .ok (.if_icmp .lt 9, 3) := by decide +kernel
theorem dX6_takeStory_9 : decode cX6_takeStory 9 = .ok (.aload_n 0, 1) := by decide +kernel
theorem dX6_takeStory_10 : decode cX6_takeStory 10 = .ok (.iconst 5, 1) := by decide +kernel
theorem dX6_takeStory_11 : decode cX6_takeStory 11 = .ok (.invokevirtual 60, 3) := by decide +kernel
theorem dX6_takeStory_14 : decode cX6_takeStory 14 = .ok (.ireturn, 1) := by decide +kernel
theorem dX6_takeStory_15 : decode cX6_takeStory 15 = .ok (.aload_n 1, 1) := by decide +kernel
theorem dX6_takeStory_16 : decode cX6_takeStory 16 = .ok (.getfield 181, 3) := by decide +kernel
theorem dX6_takeStory_19 : decode cX6_takeStory 19 = .ok (.aload_n 1, 1) := by decide +kernel
theorem dX6_takeStory_20 : decode cX6_takeStory 20 = .ok (.getfield 77, 3) := by decide +kernel
theorem dX6_takeStory_23 : decode cX6_takeStory 23 = .ok (.aaload, 1) := by decide +kernel
theorem dX6_takeStory_24 : decode cX6_takeStory 24 = .ok (.astore_n 2, 1) := by decide +kernel
theorem dX6_takeStory_25 : decode cX6_takeStory 25 = .ok (.aload_n 0, 1) := by decide +kernel
theorem dX6_takeStory_26 : decode cX6_takeStory 26 = .ok (.getfield 23, 3) := by decide +kernel
theorem dX6_takeStory_29 : decode cX6_takeStory 29 = .ok (.invokevirtual 54, 3) := by decide +kernel
theorem dX6_takeStory_32 : decode cX6_takeStory 32 = .ok (.aload_n 0, 1) := by decide +kernel
theorem dX6_takeStory_33 : decode cX6_takeStory 33 = .ok (.invokevirtual 148, 3) := by decide +kernel
theorem dX6_takeStory_36 : decode cX6_takeStory 36 = .ok (.ifCond .eq 15, 3) := by decide +kernel
theorem dX6_takeStory_39 : decode cX6_takeStory 39 = .ok (.aload_n 0, 1) := by decide +kernel
theorem dX6_takeStory_40 : decode cX6_takeStory 40 = .ok (.ldc 184, 2) := by decide +kernel
theorem dX6_takeStory_42 : decode cX6_takeStory 42 = .ok (.iconst 1, 1) := by decide +kernel
theorem dX6_takeStory_43 : decode cX6_takeStory 43 = .ok (.bipush 99, 2) := by decide +kernel
theorem dX6_takeStory_45 : decode cX6_takeStory 45 = .ok (.invokevirtual 121, 3) := by decide +kernel
theorem dX6_takeStory_48 : decode cX6_takeStory 48 = .ok (.ifCond .ne 5, 3) := by decide +kernel
theorem dX6_takeStory_51 : decode cX6_takeStory 51 = .ok (.iconst 0, 1) := by decide +kernel
theorem dX6_takeStory_52 : decode cX6_takeStory 52 = .ok (.ireturn, 1) := by decide +kernel
theorem dX6_takeStory_53 : decode cX6_takeStory 53 = .ok (.aload_n 2, 1) := by decide +kernel
theorem dX6_takeStory_54 : decode cX6_takeStory 54 = .ok (.aload_n 0, 1) := by decide +kernel
theorem dX6_takeStory_55 : decode cX6_takeStory 55 = .ok (.getfield 125, 3) := by decide +kernel
theorem dX6_takeStory_58 : decode cX6_takeStory 58 = .ok (.putfield 186, 3) := by decide +kernel
theorem dX6_takeStory_61 : decode cX6_takeStory 61 = .ok (.aload_n 2, 1) := by decide +kernel
theorem dX6_takeStory_62 : decode cX6_takeStory 62 = .ok (.aload_n 0, 1) := by decide +kernel
theorem dX6_takeStory_63 : decode cX6_takeStory 63 = .ok (.invokevirtual 190, 3) := by decide +kernel
theorem dX6_takeStory_66 : decode cX6_takeStory 66 = .ok (.putfield 194, 3) := by decide +kernel
theorem dX6_takeStory_69 : decode cX6_takeStory 69 = .ok (.aload_n 2, 1) := by decide +kernel
theorem dX6_takeStory_70 : decode cX6_takeStory 70 = .ok (.getfield 194, 3) := by decide +kernel
theorem dX6_takeStory_73 : decode cX6_takeStory 73 = .ok (.iconst (-1), 1) := by decide +kernel
theorem dX6_takeStory_74 : decode cX6_takeStory 74 = .ok (.if_icmp .ne 9, 3) := by decide +kernel
theorem dX6_takeStory_77 : decode cX6_takeStory 77 = .ok (.aload_n 0, 1) := by decide +kernel
theorem dX6_takeStory_78 : decode cX6_takeStory 78 = .ok (.iconst 1, 1) := by decide +kernel
theorem dX6_takeStory_79 : decode cX6_takeStory 79 = .ok (.invokevirtual 60, 3) := by decide +kernel
theorem dX6_takeStory_82 : decode cX6_takeStory 82 = .ok (.ireturn, 1) := by decide +kernel
theorem dX6_takeStory_83 : decode cX6_takeStory 83 = .ok (.aload_n 0, 1) := by decide +kernel
theorem dX6_takeStory_84 : decode cX6_takeStory 84 = .ok (.getfield 23, 3) := by decide +kernel
theorem dX6_takeStory_87 : decode cX6_takeStory 87 = .ok (.invokevirtual 54, 3) := by decide +kernel
theorem dX6_takeStory_90 : decode cX6_takeStory 90 = .ok (.aload_n 0, 1) := by decide +kernel
theorem dX6_takeStory_91 : decode cX6_takeStory 91 = .ok (.iconst 0, 1) := by decide +kernel
theorem dX6_takeStory_92 : decode cX6_takeStory 92 = .ok (.bipush 99, 2) := by decide +kernel
theorem dX6_takeStory_94 : decode cX6_takeStory 94 = .ok (.invokevirtual 163, 3) := by decide +kernel
theorem dX6_takeStory_97 : decode cX6_takeStory 97 = .ok (.ifCond .ne 5, 3) := by decide +kernel
theorem dX6_takeStory_100 : decode cX6_takeStory 100 = .ok (.iconst 0, 1) := by decide +kernel
theorem dX6_takeStory_101 : decode cX6_takeStory 101 = .ok (.ireturn, 1) := by decide +kernel
theorem dX6_takeStory_102 : decode cX6_takeStory 102 = .ok (.aload_n 2, 1) := by decide +kernel
theorem dX6_takeStory_103 : decode cX6_takeStory 103 = .ok (.aload_n 0, 1) := by decide +kernel
theorem dX6_takeStory_104 : decode cX6_takeStory 104 = .ok (.getfield 125, 3) := by decide +kernel
theorem dX6_takeStory_107 : decode cX6_takeStory 107 = .ok (.putfield 197, 3) := by decide +kernel
theorem dX6_takeStory_110 : decode cX6_takeStory 110 = .ok (.aload_n 2, 1) := by decide +kernel
theorem dX6_takeStory_111 : decode cX6_takeStory 111 = .ok (.getfield 194, 3) := by decide +kernel
theorem dX6_takeStory_114 : decode cX6_takeStory 114 = .ok (.iconst 2, 1) := by decide +kernel
theorem dX6_takeStory_115 : decode cX6_takeStory 115 = .ok (.if_icmp .ne 17, 3) := by decide +kernel
theorem dX6_takeStory_118 : decode cX6_takeStory 118 = .ok (.aload_n 0, 1) := by decide +kernel
theorem dX6_takeStory_119 : decode cX6_takeStory 119 = .ok (.ldc 200, 2) := by decide +kernel
theorem dX6_takeStory_121 : decode cX6_takeStory 121 = .ok (.iconst 1, 1) := by decide +kernel
theorem dX6_takeStory_122 : decode cX6_takeStory 122 = .ok (.bipush 20, 2) := by decide +kernel
theorem dX6_takeStory_124 : decode cX6_takeStory 124 = .ok (.invokevirtual 121, 3) := by decide +kernel
theorem dX6_takeStory_127 : decode cX6_takeStory 127 = .ok (.ifCond .ne 5, 3) := by decide +kernel
theorem dX6_takeStory_130 : decode cX6_takeStory 130 = .ok (.iconst 0, 1) := by decide +kernel
theorem dX6_takeStory_131 : decode cX6_takeStory 131 = .ok (.ireturn, 1) := by decide +kernel
theorem dX6_takeStory_132 : decode cX6_takeStory 132 = .ok (.aload_n 2, 1) := by decide +kernel
theorem dX6_takeStory_133 : decode cX6_takeStory 133 = .ok (.getfield 194, 3) := by decide +kernel
theorem dX6_takeStory_136 : decode cX6_takeStory 136 = .ok (.iconst 3, 1) := by decide +kernel
theorem dX6_takeStory_137 : decode cX6_takeStory 137 = .ok (.if_icmp .ne 18, 3) := by decide +kernel
theorem dX6_takeStory_140 : decode cX6_takeStory 140 = .ok (.aload_n 0, 1) := by decide +kernel
theorem dX6_takeStory_141 : decode cX6_takeStory 141 = .ok (.ldc 202, 2) := by decide +kernel
theorem dX6_takeStory_143 : decode cX6_takeStory 143 = .ok (.iconst 0, 1) := by decide +kernel
theorem dX6_takeStory_144 : decode cX6_takeStory 144 = .ok (.sipush 999, 3) := by decide +kernel
theorem dX6_takeStory_147 : decode cX6_takeStory 147 = .ok (.invokevirtual 121, 3) := by decide +kernel
theorem dX6_takeStory_150 : decode cX6_takeStory 150 = .ok (.ifCond .ne 5, 3) := by decide +kernel
theorem dX6_takeStory_153 : decode cX6_takeStory 153 = .ok (.iconst 0, 1) := by decide +kernel
theorem dX6_takeStory_154 : decode cX6_takeStory 154 = .ok (.ireturn, 1) := by decide +kernel
theorem dX6_takeStory_155 : decode cX6_takeStory 155 = .ok (.aload_n 2, 1) := by decide +kernel
theorem dX6_takeStory_156 : decode cX6_takeStory 156 = .ok (.getfield 194, 3) := by decide +kernel
theorem dX6_takeStory_159 : decode cX6_takeStory 159 = .ok (.iconst 4, 1) := by decide +kernel
theorem dX6_takeStory_160 : decode cX6_takeStory 160 = .ok (.if_icmp .ne 17, 3) := by decide +kernel
theorem dX6_takeStory_163 : decode cX6_takeStory 163 = .ok (.aload_n 0, 1) := by decide +kernel
theorem dX6_takeStory_164 : decode cX6_takeStory 164 = .ok (.ldc 204, 2) := by decide +kernel
theorem dX6_takeStory_166 : decode cX6_takeStory 166 = .ok (.iconst 1, 1) := by decide +kernel
theorem dX6_takeStory_167 : decode cX6_takeStory 167 = .ok (.bipush 99, 2) := by decide +kernel
theorem dX6_takeStory_169 : decode cX6_takeStory 169 = .ok (.invokevirtual 121, 3) := by decide +kernel
theorem dX6_takeStory_172 : decode cX6_takeStory 172 = .ok (.ifCond .ne 5, 3) := by decide +kernel
theorem dX6_takeStory_175 : decode cX6_takeStory 175 = .ok (.iconst 0, 1) := by decide +kernel
theorem dX6_takeStory_176 : decode cX6_takeStory 176 = .ok (.ireturn, 1) := by decide +kernel
theorem dX6_takeStory_177 : decode cX6_takeStory 177 = .ok (.aload_n 2, 1) := by decide +kernel
theorem dX6_takeStory_178 : decode cX6_takeStory 178 = .ok (.aload_n 0, 1) := by decide +kernel
theorem dX6_takeStory_179 : decode cX6_takeStory 179 = .ok (.getfield 125, 3) := by decide +kernel
theorem dX6_takeStory_182 : decode cX6_takeStory 182 = .ok (.putfield 206, 3) := by decide +kernel
theorem dX6_takeStory_185 : decode cX6_takeStory 185 = .ok (.aload_n 1, 1) := by decide +kernel
theorem dX6_takeStory_186 : decode cX6_takeStory 186 = .ok (.dup, 1) := by decide +kernel
theorem dX6_takeStory_187 : decode cX6_takeStory 187 = .ok (.getfield 77, 3) := by decide +kernel
theorem dX6_takeStory_190 : decode cX6_takeStory 190 = .ok (.iconst 1, 1) := by decide +kernel
theorem dX6_takeStory_191 : decode cX6_takeStory 191 = .ok (.iadd, 1) := by decide +kernel
theorem dX6_takeStory_192 : decode cX6_takeStory 192 = .ok (.putfield 77, 3) := by decide +kernel
theorem dX6_takeStory_195 : decode cX6_takeStory 195 = .ok (.iconst 1, 1) := by decide +kernel
theorem dX6_takeStory_196 : decode cX6_takeStory 196 = .ok (.ireturn, 1) := by decide +kernel
theorem dX6_kindHere_0 : decode cX6_kindHere 0 = .ok (.aload_n 0, 1) := by decide +kernel
theorem dX6_kindHere_1 : decode cX6_kindHere 1 = .ok (.getfield 23, 3) := by decide +kernel
theorem dX6_kindHere_4 : decode cX6_kindHere 4 = .ok (.ldc 209, 2) := by decide +kernel
theorem dX6_kindHere_6 : decode cX6_kindHere 6 = .ok (.invokevirtual 81, 3) := by decide +kernel
theorem dX6_kindHere_9 : decode cX6_kindHere 9 = .ok (.ifCond .eq 5, 3) := by decide +kernel
theorem dX6_kindHere_12 : decode cX6_kindHere 12 = .ok (.iconst 0, 1) := by decide +kernel
theorem dX6_kindHere_13 : decode cX6_kindHere 13 = .ok (.ireturn, 1) := by decide +kernel
theorem dX6_kindHere_14 : decode cX6_kindHere 14 = .ok (.aload_n 0, 1) := by decide +kernel
theorem dX6_kindHere_15 : decode cX6_kindHere 15 = .ok (.getfield 23, 3) := by decide +kernel
theorem dX6_kindHere_18 : decode cX6_kindHere 18 = .ok (.ldc 211, 2) := by decide +kernel
theorem dX6_kindHere_20 : decode cX6_kindHere 20 = .ok (.invokevirtual 81, 3) := by decide +kernel
theorem dX6_kindHere_23 : decode cX6_kindHere 23 = .ok (.ifCond .eq 5, 3) := by decide +kernel
theorem dX6_kindHere_26 : decode cX6_kindHere 26 = .ok (.iconst 1, 1) := by decide +kernel
theorem dX6_kindHere_27 : decode cX6_kindHere 27 = .ok (.ireturn, 1) := by decide +kernel
theorem dX6_kindHere_28 : decode cX6_kindHere 28 = .ok (.aload_n 0, 1) := by decide +kernel
theorem dX6_kindHere_29 : decode cX6_kindHere 29 = .ok (.getfield 23, 3) := by decide +kernel
theorem dX6_kindHere_32 : decode cX6_kindHere 32 = .ok (.ldc 213, 2) := by decide +kernel
theorem dX6_kindHere_34 : decode cX6_kindHere 34 = .ok (.invokevirtual 81, 3) := by decide +kernel
theorem dX6_kindHere_37 : decode cX6_kindHere 37 = .ok (.ifCond .eq 5, 3) := by decide +kernel
theorem dX6_kindHere_40 : decode cX6_kindHere 40 = .ok (.iconst 2, 1) := by decide +kernel
theorem dX6_kindHere_41 : decode cX6_kindHere 41 = .ok (.ireturn, 1) := by decide +kernel
theorem dX6_kindHere_42 : decode cX6_kindHere 42 = .ok (.aload_n 0, 1) := by decide +kernel
theorem dX6_kindHere_43 : decode cX6_kindHere 43 = .ok (.getfield 23, 3) := by decide +kernel
theorem dX6_kindHere_46 : decode cX6_kindHere 46 = .ok (.ldc 215, 2) := by decide +kernel
theorem dX6_kindHere_48 : decode cX6_kindHere 48 = .ok (.invokevirtual 81, 3) := by decide +kernel
theorem dX6_kindHere_51 : decode cX6_kindHere 51 = .ok (.ifCond .eq 5, 3) := by decide +kernel
theorem dX6_kindHere_54 : decode cX6_kindHere 54 = .ok (.iconst 3, 1) := by decide +kernel
theorem dX6_kindHere_55 : decode cX6_kindHere 55 = .ok (.ireturn, 1) := by decide +kernel
theorem dX6_kindHere_56 : decode cX6_kindHere 56 = .ok (.aload_n 0, 1) := by decide +kernel
theorem dX6_kindHere_57 : decode cX6_kindHere 57 = .ok (.getfield 23, 3) := by decide +kernel
theorem dX6_kindHere_60 : decode cX6_kindHere 60 = .ok (.ldc 217, 2) := by decide +kernel
theorem dX6_kindHere_62 : decode cX6_kindHere 62 = .ok (.invokevirtual 81, 3) := by decide +kernel
theorem dX6_kindHere_65 : decode cX6_kindHere 65 = .ok (.ifCond .eq 5, 3) := by decide +kernel
theorem dX6_kindHere_68 : decode cX6_kindHere 68 = .ok (.iconst 4, 1) := by decide +kernel
theorem dX6_kindHere_69 : decode cX6_kindHere 69 = .ok (.ireturn, 1) := by decide +kernel
theorem dX6_kindHere_70 : decode cX6_kindHere 70 = .ok (.aload_n 0, 1) := by decide +kernel
theorem dX6_kindHere_71 : decode cX6_kindHere 71 = .ok (.getfield 23, 3) := by decide +kernel
theorem dX6_kindHere_74 : decode cX6_kindHere 74 = .ok (.ldc 219, 2) := by decide +kernel
theorem dX6_kindHere_76 : decode cX6_kindHere 76 = .ok (.invokevirtual 81, 3) := by decide +kernel
theorem dX6_kindHere_79 : decode cX6_kindHere 79 = .ok (.ifCond .eq 7, 3) := by decide +kernel
theorem dX6_kindHere_82 : decode cX6_kindHere 82 = .ok (.iconst 5, 1) := by decide +kernel
theorem dX6_kindHere_83 : decode cX6_kindHere 83 = .ok (.goto 4, 3) := by decide +kernel
theorem dX6_kindHere_86 : decode cX6_kindHere 86 = .ok (.iconst (-1), 1) := by decide +kernel
theorem dX6_kindHere_87 : decode cX6_kindHere 87 = .ok (.ireturn, 1) := by decide +kernel
theorem dX6_takeVillage_0 : decode cX6_takeVillage 0 = .ok (.aload_n 1, 1) := by decide +kernel
theorem dX6_takeVillage_1 : decode cX6_takeVillage 1 = .ok (.getfield 220, 3) := by decide +kernel
theorem dX6_takeVillage_4 : decode cX6_takeVillage 4 = .ok (.istore_n 2, 1) := by decide +kernel
theorem dX6_takeVillage_5 : decode cX6_takeVillage 5 = .ok (.iload_n 2, 1) := by decide +kernel
theorem dX6_takeVillage_6 : decode cX6_takeVillage 6 = .ok (.iconst 4, 1) := by decide +kernel
theorem dX6_takeVillage_7 : decode cX6_takeVillage 7 = .ok (.if_icmp .lt 9, 3) := by decide +kernel
theorem dX6_takeVillage_10 : decode cX6_takeVillage 10 = .ok (.aload_n 0, 1) := by decide +kernel
theorem dX6_takeVillage_11 : decode cX6_takeVillage 11 = .ok (.iconst 5, 1) := by decide +kernel
theorem dX6_takeVillage_12 : decode cX6_takeVillage 12 = .ok (.invokevirtual 60, 3) := by decide +kernel
theorem dX6_takeVillage_15 : decode cX6_takeVillage 15 = .ok (.ireturn, 1) := by decide +kernel
theorem dX6_takeVillage_16 : decode cX6_takeVillage 16 = .ok (.aload_n 0, 1) := by decide +kernel
theorem dX6_takeVillage_17 : decode cX6_takeVillage 17 = .ok (.getfield 23, 3) := by decide +kernel
theorem dX6_takeVillage_20 : decode cX6_takeVillage 20 = .ok (.invokevirtual 54, 3) := by decide +kernel
theorem dX6_takeVillage_23 : decode cX6_takeVillage 23 = .ok (.aload_n 0, 1) := by decide +kernel
theorem dX6_takeVillage_24 : decode cX6_takeVillage 24 = .ok (.invokevirtual 148, 3) := by decide +kernel
theorem dX6_takeVillage_27 : decode cX6_takeVillage 27 = .ok (.ifCond .eq 16, 3) := by decide +kernel
theorem dX6_takeVillage_30 : decode cX6_takeVillage 30 = .ok (.aload_n 0, 1) := by decide +kernel
theorem dX6_takeVillage_31 : decode cX6_takeVillage 31 = .ok (.ldc 223, 2) := by decide +kernel
theorem dX6_takeVillage_33 : decode cX6_takeVillage 33 = .ok (.iconst 0, 1) := by decide +kernel
theorem dX6_takeVillage_34 : decode cX6_takeVillage 34 = .ok (.sipush 999, 3) := by decide +kernel
theorem dX6_takeVillage_37 : decode cX6_takeVillage 37 = .ok (.invokevirtual 121, 3) := by decide +kernel
theorem dX6_takeVillage_40 : decode cX6_takeVillage 40 = .ok (.ifCond .ne 5, 3) := by decide +kernel
theorem dX6_takeVillage_43 : decode cX6_takeVillage 43 = .ok (.iconst 0, 1) := by decide +kernel
theorem dX6_takeVillage_44 : decode cX6_takeVillage 44 = .ok (.ireturn, 1) := by decide +kernel
theorem dX6_takeVillage_45 : decode cX6_takeVillage 45 = .ok (.aload_n 1, 1) := by decide +kernel
theorem dX6_takeVillage_46 : decode cX6_takeVillage 46 = .ok (.getfield 225, 3) := by decide +kernel
theorem dX6_takeVillage_49 : decode cX6_takeVillage 49 = .ok (.iload_n 2, 1) := by decide +kernel
theorem dX6_takeVillage_50 : decode cX6_takeVillage 50 = .ok (.aload_n 0, 1) := by decide +kernel
theorem dX6_takeVillage_51 : decode cX6_takeVillage 51 = .ok (.getfield 125, 3) := by decide +kernel
theorem dX6_takeVillage_54 : decode cX6_takeVillage 54 = .ok (.iastore, 1) := by decide +kernel
theorem dX6_takeVillage_55 : decode cX6_takeVillage 55 = .ok (.aload_n 0, 1) := by decide +kernel
theorem dX6_takeVillage_56 : decode cX6_takeVillage 56 = .ok (.ldc 227, 2) := by decide +kernel
theorem dX6_takeVillage_58 : decode cX6_takeVillage 58 = .ok (.iconst 1, 1) := by decide +kernel
theorem dX6_takeVillage_59 : decode cX6_takeVillage 59 = .ok (.sipush 999, 3) := by decide +kernel
theorem dX6_takeVillage_62 : decode cX6_takeVillage 62 = .ok (.invokevirtual 121, 3) := by decide +kernel
theorem dX6_takeVillage_65 : decode cX6_takeVillage 65 = .ok (.ifCond .ne 5, 3) := by decide +kernel
theorem dX6_takeVillage_68 : decode cX6_takeVillage 68 = .ok (.iconst 0, 1) := by decide +kernel
theorem dX6_takeVillage_69 : decode cX6_takeVillage 69 = .ok (.ireturn, 1) := by decide +kernel
theorem dX6_takeVillage_70 : decode cX6_takeVillage 70 = .ok (.aload_n 1, 1) := by decide +kernel
theorem dX6_takeVillage_71 : decode cX6_takeVillage 71 = .ok (.getfield 229, 3) := by decide +kernel
theorem dX6_takeVillage_74 : decode cX6_takeVillage 74 = .ok (.iload_n 2, 1) := by decide +kernel
theorem dX6_takeVillage_75 : decode cX6_takeVillage 75 = .ok (.aload_n 0, 1) := by decide +kernel
theorem dX6_takeVillage_76 : decode cX6_takeVillage 76 = .ok (.getfield 125, 3) := by decide +kernel
theorem dX6_takeVillage_79 : decode cX6_takeVillage 79 = .ok (.iastore, 1) := by decide +kernel
theorem dX6_takeVillage_80 : decode cX6_takeVillage 80 = .ok (.aload_n 0, 1) := by decide +kernel
theorem dX6_takeVillage_81 : decode cX6_takeVillage 81 = .ok (.ldc 231, 2) := by decide +kernel
theorem dX6_takeVillage_83 : decode cX6_takeVillage 83 = .ok (.iconst 0, 1) := by decide +kernel
theorem dX6_takeVillage_84 : decode cX6_takeVillage 84 = .ok (.bipush 30, 2) := by decide +kernel
theorem dX6_takeVillage_86 : decode cX6_takeVillage 86 = .ok (.invokevirtual 121, 3) := by decide +kernel
theorem dX6_takeVillage_89 : decode cX6_takeVillage 89 = .ok (.ifCond .ne 5, 3) := by decide +kernel
theorem dX6_takeVillage_92 : decode cX6_takeVillage 92 = .ok (.iconst 0, 1) := by decide +kernel
theorem dX6_takeVillage_93 : decode cX6_takeVillage 93 = .ok (.ireturn, 1) := by decide +kernel
theorem dX6_takeVillage_94 : decode cX6_takeVillage 94 = .ok (.aload_n 1, 1) := by decide +kernel
theorem dX6_takeVillage_95 : decode cX6_takeVillage 95 = .ok (.getfield 233, 3) := by decide +kernel
theorem dX6_takeVillage_98 : decode cX6_takeVillage 98 = .ok (.iload_n 2, 1) := by decide +kernel
theorem dX6_takeVillage_99 : decode cX6_takeVillage 99 = .ok (.aload_n 0, 1) := by decide +kernel
theorem dX6_takeVillage_100 : decode cX6_takeVillage 100 = .ok (.getfield 125, 3) := by decide +kernel
theorem dX6_takeVillage_103 : decode cX6_takeVillage 103 = .ok (.iastore, 1) := by decide +kernel
theorem dX6_takeVillage_104 : decode cX6_takeVillage 104 = .ok (.aload_n 1, 1) := by decide +kernel
theorem dX6_takeVillage_105 : decode cX6_takeVillage 105 = .ok (.dup, 1) := by decide +kernel
theorem dX6_takeVillage_106 : decode cX6_takeVillage 106 = .ok (.getfield 220, 3) := by decide +kernel
theorem dX6_takeVillage_109 : decode cX6_takeVillage 109 = .ok (.iconst 1, 1) := by decide +kernel
theorem dX6_takeVillage_110 : decode cX6_takeVillage 110 = .ok (.iadd, 1) := by decide +kernel
theorem dX6_takeVillage_111 : decode cX6_takeVillage 111 = .ok (.putfield 220, 3) := by decide +kernel
theorem dX6_takeVillage_114 : decode cX6_takeVillage 114 = .ok (.iconst 1, 1) := by decide +kernel
theorem dX6_takeVillage_115 : decode cX6_takeVillage 115 = .ok (.ireturn, 1) := by decide +kernel
theorem dX6_takeKnower_0 : decode cX6_takeKnower 0 = .ok (.aload_n 1, 1) := by decide +kernel
theorem dX6_takeKnower_1 : decode cX6_takeKnower 1 = .ok (.getfield 235, 3) := by decide +kernel
theorem dX6_takeKnower_4 : decode cX6_takeKnower 4 = .ok (.istore_n 2, 1) := by decide +kernel
theorem dX6_takeKnower_5 : decode cX6_takeKnower 5 = .ok (.iload_n 2, 1) := by decide +kernel
theorem dX6_takeKnower_6 : decode cX6_takeKnower 6 = .ok (.iconst 4, 1) := by decide +kernel
theorem dX6_takeKnower_7 : decode cX6_takeKnower 7 = .ok (.if_icmp .lt 9, 3) := by decide +kernel
theorem dX6_takeKnower_10 : decode cX6_takeKnower 10 = .ok (.aload_n 0, 1) := by decide +kernel
theorem dX6_takeKnower_11 : decode cX6_takeKnower 11 = .ok (.iconst 5, 1) := by decide +kernel
theorem dX6_takeKnower_12 : decode cX6_takeKnower 12 = .ok (.invokevirtual 60, 3) := by decide +kernel
theorem dX6_takeKnower_15 : decode cX6_takeKnower 15 = .ok (.ireturn, 1) := by decide +kernel
theorem dX6_takeKnower_16 : decode cX6_takeKnower 16 = .ok (.aload_n 0, 1) := by decide +kernel
theorem dX6_takeKnower_17 : decode cX6_takeKnower 17 = .ok (.getfield 23, 3) := by decide +kernel
theorem dX6_takeKnower_20 : decode cX6_takeKnower 20 = .ok (.invokevirtual 54, 3) := by decide +kernel
theorem dX6_takeKnower_23 : decode cX6_takeKnower 23 = .ok (.aload_n 0, 1) := by decide +kernel
theorem dX6_takeKnower_24 : decode cX6_takeKnower 24 = .ok (.invokevirtual 148, 3) := by decide +kernel
theorem dX6_takeKnower_27 : decode cX6_takeKnower 27 = .ok (.ifCond .ne 5, 3) := by decide +kernel
theorem dX6_takeKnower_30 : decode cX6_takeKnower 30 = .ok (.iconst 0, 1) := by decide +kernel
theorem dX6_takeKnower_31 : decode cX6_takeKnower 31 = .ok (.ireturn, 1) := by decide +kernel
theorem dX6_takeKnower_32 : decode cX6_takeKnower 32 = .ok (.aload_n 0, 1) := by decide +kernel
theorem dX6_takeKnower_33 : decode cX6_takeKnower 33 = .ok (.getfield 23, 3) := by decide +kernel
theorem dX6_takeKnower_36 : decode cX6_takeKnower 36 = .ok (.ldc 238, 2) := by decide +kernel
theorem dX6_takeKnower_38 : decode cX6_takeKnower 38 = .ok (.invokevirtual 81, 3) := by decide +kernel
theorem dX6_takeKnower_41 : decode cX6_takeKnower 41 = .ok (.ifCond .ne 9, 3) := by decide +kernel
theorem dX6_takeKnower_44 : decode cX6_takeKnower 44 = .ok (.aload_n 0, 1) := by decide +kernel
theorem dX6_takeKnower_45 : decode cX6_takeKnower 45 = .ok (.iconst 1, 1) := by decide +kernel
theorem dX6_takeKnower_46 : decode cX6_takeKnower 46 = .ok (.invokevirtual 60, 3) := by decide +kernel
theorem dX6_takeKnower_49 : decode cX6_takeKnower 49 = .ok (.ireturn, 1) := by decide +kernel
theorem dX6_takeKnower_50 : decode cX6_takeKnower 50 = .ok (.aload_n 0, 1) := by decide +kernel
theorem dX6_takeKnower_51 : decode cX6_takeKnower 51 = .ok (.getfield 23, 3) := by decide +kernel
theorem dX6_takeKnower_54 : decode cX6_takeKnower 54 = .ok (.invokevirtual 54, 3) := by decide +kernel
theorem dX6_takeKnower_57 : decode cX6_takeKnower 57 = .ok (.aload_n 0, 1) := by decide +kernel
theorem dX6_takeKnower_58 : decode cX6_takeKnower 58 = .ok (.invokevirtual 240, 3) := by decide +kernel
theorem dX6_takeKnower_61 : decode cX6_takeKnower 61 = .ok (.ifCond .ne 9, 3) := by decide +kernel
theorem dX6_takeKnower_64 : decode cX6_takeKnower 64 = .ok (.aload_n 0, 1) := by decide +kernel
theorem dX6_takeKnower_65 : decode cX6_takeKnower 65 = .ok (.iconst 1, 1) := by decide +kernel
theorem dX6_takeKnower_66 : decode cX6_takeKnower 66 = .ok (.invokevirtual 60, 3) := by decide +kernel
theorem dX6_takeKnower_69 : decode cX6_takeKnower 69 = .ok (.ireturn, 1) := by decide +kernel
theorem dX6_takeKnower_70 : decode cX6_takeKnower 70 = .ok (.aload_n 0, 1) := by decide +kernel
theorem dX6_takeKnower_71 : decode cX6_takeKnower 71 = .ok (.aload_n 0, 1) := by decide +kernel
theorem dX6_takeKnower_72 : decode cX6_takeKnower 72 = .ok (.getfield 23, 3) := by decide +kernel
theorem dX6_takeKnower_75 : decode cX6_takeKnower 75 = .ok (.getfield 144, 3) := by decide +kernel
theorem dX6_takeKnower_78 : decode cX6_takeKnower 78 = .ok (.aload_n 1, 1) := by decide +kernel
theorem dX6_takeKnower_79 : decode cX6_takeKnower 79 = .ok (.getfield 74, 3) := by decide +kernel
theorem dX6_takeKnower_82 : decode cX6_takeKnower 82 = .ok (.invokevirtual 243, 3) := by decide +kernel
theorem dX6_takeKnower_85 : decode cX6_takeKnower 85 = .ok (.istore_n 3, 1) := by decide +kernel
theorem dX6_takeKnower_86 : decode cX6_takeKnower 86 = .ok (.iload_n 3, 1) := by decide +kernel
theorem dX6_takeKnower_87 : decode cX6_takeKnower 87 = .ok (.iconst (-1), 1) := by decide +kernel
theorem dX6_takeKnower_88 : decode cX6_takeKnower 88 = .ok (.if_icmp .ne 9, 3) := by decide +kernel
theorem dX6_takeKnower_91 : decode cX6_takeKnower 91 = .ok (.aload_n 0, 1) := by decide +kernel
theorem dX6_takeKnower_92 : decode cX6_takeKnower 92 = .ok (.iconst 2, 1) := by decide +kernel
theorem dX6_takeKnower_93 : decode cX6_takeKnower 93 = .ok (.invokevirtual 60, 3) := by decide +kernel
theorem dX6_takeKnower_96 : decode cX6_takeKnower 96 = .ok (.ireturn, 1) := by decide +kernel
theorem dX6_takeKnower_97 : decode cX6_takeKnower 97 = .ok (.aload_n 1, 1) := by decide +kernel
theorem dX6_takeKnower_98 : decode cX6_takeKnower 98 = .ok (.getfield 247, 3) := by decide +kernel
theorem dX6_takeKnower_101 : decode cX6_takeKnower 101 = .ok (.iload_n 2, 1) := by decide +kernel
theorem dX6_takeKnower_102 : decode cX6_takeKnower 102 = .ok (.iload_n 3, 1) := by decide +kernel
theorem dX6_takeKnower_103 : decode cX6_takeKnower 103 = .ok (.iastore, 1) := by decide +kernel
theorem dX6_takeKnower_104 : decode cX6_takeKnower 104 = .ok (.aload_n 0, 1) := by decide +kernel
theorem dX6_takeKnower_105 : decode cX6_takeKnower 105 = .ok (.getfield 23, 3) := by decide +kernel
theorem dX6_takeKnower_108 : decode cX6_takeKnower 108 = .ok (.invokevirtual 54, 3) := by decide +kernel
theorem dX6_takeKnower_111 : decode cX6_takeKnower 111 = .ok (.aload_n 0, 1) := by decide +kernel
theorem dX6_takeKnower_112 : decode cX6_takeKnower 112 = .ok (.ldc 250, 2) := by decide +kernel
theorem dX6_takeKnower_114 : decode cX6_takeKnower 114 = .ok (.iconst 0, 1) := by decide +kernel
theorem dX6_takeKnower_115 : decode cX6_takeKnower 115 = .ok (.sipush 999, 3) := by decide +kernel
theorem dX6_takeKnower_118 : decode cX6_takeKnower 118 = .ok (.invokevirtual 121, 3) := by decide +kernel
theorem dX6_takeKnower_121 : decode cX6_takeKnower 121 = .ok (.ifCond .ne 5, 3) := by decide +kernel
theorem dX6_takeKnower_124 : decode cX6_takeKnower 124 = .ok (.iconst 0, 1) := by decide +kernel
theorem dX6_takeKnower_125 : decode cX6_takeKnower 125 = .ok (.ireturn, 1) := by decide +kernel
theorem dX6_takeKnower_126 : decode cX6_takeKnower 126 = .ok (.aload_n 1, 1) := by decide +kernel
theorem dX6_takeKnower_127 : decode cX6_takeKnower 127 = .ok (.getfield 252, 3) := by decide +kernel
theorem dX6_takeKnower_130 : decode cX6_takeKnower 130 = .ok (.iload_n 2, 1) := by decide +kernel
theorem dX6_takeKnower_131 : decode cX6_takeKnower 131 = .ok (.aload_n 0, 1) := by decide +kernel
theorem dX6_takeKnower_132 : decode cX6_takeKnower 132 = .ok (.getfield 125, 3) := by decide +kernel
theorem dX6_takeKnower_135 : decode cX6_takeKnower 135 = .ok (.iastore, 1) := by decide +kernel
theorem dX6_takeKnower_136 : decode cX6_takeKnower 136 = .ok (.aload_n 1, 1) := by decide +kernel
theorem dX6_takeKnower_137 : decode cX6_takeKnower 137 = .ok (.dup, 1) := by decide +kernel
theorem dX6_takeKnower_138 : decode cX6_takeKnower 138 = .ok (.getfield 235, 3) := by decide +kernel
theorem dX6_takeKnower_141 : decode cX6_takeKnower 141 = .ok (.iconst 1, 1) := by decide +kernel
theorem dX6_takeKnower_142 : decode cX6_takeKnower 142 = .ok (.iadd, 1) := by decide +kernel
theorem dX6_takeKnower_143 : decode cX6_takeKnower 143 = .ok (.putfield 235, 3) := by decide +kernel
theorem dX6_takeKnower_146 : decode cX6_takeKnower 146 = .ok (.iconst 1, 1) := by decide +kernel
theorem dX6_takeKnower_147 : decode cX6_takeKnower 147 = .ok (.ireturn, 1) := by decide +kernel
theorem dX6_pegNamed_0 : decode cX6_pegNamed 0 = .ok (.iconst 0, 1) := by decide +kernel
theorem dX6_pegNamed_1 : decode cX6_pegNamed 1 = .ok (.istore 4, 2) := by decide +kernel
theorem dX6_pegNamed_3 : decode cX6_pegNamed 3 = .ok (.iload 4, 2) := by decide +kernel
theorem dX6_pegNamed_5 : decode cX6_pegNamed 5 = .ok (.iload_n 3, 1) := by decide +kernel
theorem dX6_pegNamed_6 : decode cX6_pegNamed 6 = .ok (.if_icmp .ge 24, 3) := by decide +kernel
theorem dX6_pegNamed_9 : decode cX6_pegNamed 9 = .ok (.aload_n 0, 1) := by decide +kernel
theorem dX6_pegNamed_10 : decode cX6_pegNamed 10 = .ok (.getfield 15, 3) := by decide +kernel
theorem dX6_pegNamed_13 : decode cX6_pegNamed 13 = .ok (.iload 4, 2) := by decide +kernel
theorem dX6_pegNamed_15 : decode cX6_pegNamed 15 = .ok (.laload, 1) := by decide +kernel
theorem dX6_pegNamed_16 : decode cX6_pegNamed 16 = .ok (.lload_n 1, 1) := by decide +kernel
theorem dX6_pegNamed_17 : decode cX6_pegNamed 17 = .ok (.lcmp, 1) := by decide +kernel
theorem dX6_pegNamed_18 : decode cX6_pegNamed 18 = .ok (.ifCond .ne 6, 3) := by decide +kernel
theorem dX6_pegNamed_21 : decode cX6_pegNamed 21 = .ok (.iload 4, 2) := by decide +kernel
theorem dX6_pegNamed_23 : decode cX6_pegNamed 23 = .ok (.ireturn, 1) := by decide +kernel
theorem dX6_pegNamed_24 : decode cX6_pegNamed 24 = .ok (.iinc 4 1, 3) := by decide +kernel
theorem dX6_pegNamed_27 : decode cX6_pegNamed 27 = .ok (.goto (-24), 3) := by decide +kernel
theorem dX6_pegNamed_30 : decode cX6_pegNamed 30 = .ok (.iconst (-1), 1) := by decide +kernel
theorem dX6_pegNamed_31 : decode cX6_pegNamed 31 = .ok (.ireturn, 1) := by decide +kernel
theorem dX6_takeNewName_0 : decode cX6_takeNewName 0 = .ok (.aload_n 0, 1) := by decide +kernel
theorem dX6_takeNewName_1 : decode cX6_takeNewName 1 = .ok (.invokevirtual 240, 3) := by decide +kernel
theorem dX6_takeNewName_4 : decode cX6_takeNewName 4 = .ok (.ifCond .ne 9, 3) := by decide +kernel
theorem dX6_takeNewName_7 : decode cX6_takeNewName 7 = .ok (.aload_n 0, 1) := by decide +kernel
theorem dX6_takeNewName_8 : decode cX6_takeNewName 8 = .ok (.iconst 1, 1) := by decide +kernel
theorem dX6_takeNewName_9 : decode cX6_takeNewName 9 = .ok (.invokevirtual 60, 3) := by decide +kernel
theorem dX6_takeNewName_12 : decode cX6_takeNewName 12 = .ok (.ireturn, 1) := by decide +kernel
theorem dX6_takeNewName_13 : decode cX6_takeNewName 13 = .ok (.iconst 0, 1) := by decide +kernel
theorem dX6_takeNewName_14 : decode cX6_takeNewName 14 = .ok (.istore_n 1, 1) := by decide +kernel
theorem dX6_takeNewName_15 : decode cX6_takeNewName 15 = .ok (.iload_n 1, 1) := by decide +kernel
theorem dX6_takeNewName_16 : decode cX6_takeNewName 16 = .ok (.aload_n 0, 1) := by decide +kernel
theorem dX6_takeNewName_17 : decode cX6_takeNewName 17 = .ok (.getfield 32, 3) := by decide +kernel
theorem dX6_takeNewName_20 : decode cX6_takeNewName 20 = .ok (.if_icmp .ge 32, 3) := by decide +kernel
theorem dX6_takeNewName_23 : decode cX6_takeNewName 23 = .ok (.aload_n 0, 1) := by decide +kernel
theorem dX6_takeNewName_24 : decode cX6_takeNewName 24 = .ok (.getfield 11, 3) := by decide +kernel
theorem dX6_takeNewName_27 : decode cX6_takeNewName 27 = .ok (.iload_n 1, 1) := by decide +kernel
theorem dX6_takeNewName_28 : decode cX6_takeNewName 28 = .ok (.laload, 1) := by decide +kernel
theorem dX6_takeNewName_29 : decode cX6_takeNewName 29 = .ok (.aload_n 0, 1) := by decide +kernel
theorem dX6_takeNewName_30 : decode cX6_takeNewName 30 = .ok (.getfield 23, 3) := by decide +kernel
theorem dX6_takeNewName_33 : decode cX6_takeNewName 33 = .ok (.getfield 144, 3) := by decide +kernel
theorem dX6_takeNewName_36 : decode cX6_takeNewName 36 = .ok (.lcmp, 1) := by decide +kernel
theorem dX6_takeNewName_37 : decode cX6_takeNewName 37 = .ok (.ifCond .ne 9, 3) := by decide +kernel
theorem dX6_takeNewName_40 : decode cX6_takeNewName 40 = .ok (.aload_n 0, 1) := by decide +kernel
theorem dX6_takeNewName_41 : decode cX6_takeNewName 41 = .ok (.iconst 3, 1) := by decide +kernel
theorem dX6_takeNewName_42 : decode cX6_takeNewName 42 = .ok (.invokevirtual 60, 3) := by decide +kernel
theorem dX6_takeNewName_45 : decode cX6_takeNewName 45 = .ok (.ireturn, 1) := by decide +kernel
theorem dX6_takeNewName_46 : decode cX6_takeNewName 46 = .ok (.iinc 1 1, 3) := by decide +kernel
theorem dX6_takeNewName_49 : decode cX6_takeNewName 49 = .ok (.goto (-34), 3) := by decide +kernel
theorem dX6_takeNewName_52 : decode cX6_takeNewName 52 = .ok (.aload_n 0, 1) := by decide +kernel
theorem dX6_takeNewName_53 : decode cX6_takeNewName 53 = .ok (.getfield 32, 3) := by decide +kernel
theorem dX6_takeNewName_56 : decode cX6_takeNewName 56 = .ok (.bipush 19, 2) := by decide +kernel
theorem dX6_takeNewName_58 : decode cX6_takeNewName 58 = .ok (.if_icmp .ge 29, 3) := by decide +kernel
theorem dX6_takeNewName_61 : decode cX6_takeNewName 61 = .ok (.aload_n 0, 1) := by decide +kernel
theorem dX6_takeNewName_62 : decode cX6_takeNewName 62 = .ok (.getfield 11, 3) := by decide +kernel
theorem dX6_takeNewName_65 : decode cX6_takeNewName 65 = .ok (.aload_n 0, 1) := by decide +kernel
theorem dX6_takeNewName_66 : decode cX6_takeNewName 66 = .ok (.getfield 32, 3) := by decide +kernel
theorem dX6_takeNewName_69 : decode cX6_takeNewName 69 = .ok (.aload_n 0, 1) := by decide +kernel
theorem dX6_takeNewName_70 : decode cX6_takeNewName 70 = .ok (.getfield 23, 3) := by decide +kernel
theorem dX6_takeNewName_73 : decode cX6_takeNewName 73 = .ok (.getfield 144, 3) := by decide +kernel
theorem dX6_takeNewName_76 : decode cX6_takeNewName 76 = .ok (.lastore, 1) := by decide +kernel
theorem dX6_takeNewName_77 : decode cX6_takeNewName 77 = .ok (.aload_n 0, 1) := by decide +kernel
theorem dX6_takeNewName_78 : decode cX6_takeNewName 78 = .ok (.dup, 1) := by decide +kernel
theorem dX6_takeNewName_79 : decode cX6_takeNewName 79 = .ok (.getfield 32, 3) := by decide +kernel
theorem dX6_takeNewName_82 : decode cX6_takeNewName 82 = .ok (.iconst 1, 1) := by decide +kernel
theorem dX6_takeNewName_83 : decode cX6_takeNewName 83 = .ok (.iadd, 1) := by decide +kernel
theorem dX6_takeNewName_84 : decode cX6_takeNewName 84 = .ok (.putfield 32, 3) := by decide +kernel
theorem dX6_takeNewName_87 : decode cX6_takeNewName 87 = .ok (.aload_n 0, 1) := by decide +kernel
theorem dX6_takeNewName_88 : decode cX6_takeNewName 88 = .ok (.getfield 23, 3) := by decide +kernel
theorem dX6_takeNewName_91 : decode cX6_takeNewName 91 = .ok (.invokevirtual 54, 3) := by decide +kernel
theorem dX6_takeNewName_94 : decode cX6_takeNewName 94 = .ok (.iconst 1, 1) := by decide +kernel
theorem dX6_takeNewName_95 : decode cX6_takeNewName 95 = .ok (.ireturn, 1) := by decide +kernel
theorem dX6_isName_0 : decode cX6_isName 0 = .ok (.aload_n 0, 1) := by decide +kernel
theorem dX6_isName_1 : decode cX6_isName 1 = .ok (.getfield 23, 3) := by decide +kernel
theorem dX6_isName_4 : decode cX6_isName 4 = .ok (.invokevirtual 255, 3) := by decide +kernel
theorem dX6_isName_7 : decode cX6_isName 7 = .ok (.ifCond .eq 91, 3) := by decide +kernel
theorem dX6_isName_10 : decode cX6_isName 10 = .ok (.aload_n 0, 1) := by decide +kernel
theorem dX6_isName_11 : decode cX6_isName 11 = .ok (.getfield 23, 3) := by decide +kernel
theorem dX6_isName_14 : decode cX6_isName 14 = .ok (.ldc 80, 2) := by decide +kernel
theorem dX6_isName_16 : decode cX6_isName 16 = .ok (.invokevirtual 81, 3) := by decide +kernel
theorem dX6_isName_19 : decode cX6_isName 19 = .ok (.ifCond .ne 79, 3) := by decide +kernel
theorem dX6_isName_22 : decode cX6_isName 22 = .ok (.aload_n 0, 1) := by decide +kernel
theorem dX6_isName_23 : decode cX6_isName 23 = .ok (.getfield 23, 3) := by decide +kernel
theorem dX6_isName_26 : decode cX6_isName 26 = .ok (.ldc 89, 2) := by decide +kernel
theorem dX6_isName_28 : decode cX6_isName 28 = .ok (.invokevirtual 81, 3) := by decide +kernel
theorem dX6_isName_31 : decode cX6_isName 31 = .ok (.ifCond .ne 67, 3) := by decide +kernel
theorem dX6_isName_34 : decode cX6_isName 34 = .ok (.aload_n 0, 1) := by decide +kernel
theorem dX6_isName_35 : decode cX6_isName 35 = .ok (.getfield 23, 3) := by decide +kernel
theorem dX6_isName_38 : decode cX6_isName 38 = .ok (.ldc 94, 2) := by decide +kernel
theorem dX6_isName_40 : decode cX6_isName 40 = .ok (.invokevirtual 81, 3) := by decide +kernel
theorem dX6_isName_43 : decode cX6_isName 43 = .ok (.ifCond .ne 55, 3) := by decide +kernel
theorem dX6_isName_46 : decode cX6_isName 46 = .ok (.aload_n 0, 1) := by decide +kernel
theorem dX6_isName_47 : decode cX6_isName 47 = .ok (.getfield 23, 3) := by decide +kernel
theorem dX6_isName_50 : decode cX6_isName 50 = .ok (.ldc 99, 2) := by decide +kernel
theorem dX6_isName_52 : decode cX6_isName 52 = .ok (.invokevirtual 81, 3) := by decide +kernel
theorem dX6_isName_55 : decode cX6_isName 55 = .ok (.ifCond .ne 43, 3) := by decide +kernel
theorem dX6_isName_58 : decode cX6_isName 58 = .ok (.aload_n 0, 1) := by decide +kernel
theorem dX6_isName_59 : decode cX6_isName 59 = .ok (.getfield 23, 3) := by decide +kernel
theorem dX6_isName_62 : decode cX6_isName 62 = .ok (.ldc 104, 2) := by decide +kernel
theorem dX6_isName_64 : decode cX6_isName 64 = .ok (.invokevirtual 81, 3) := by decide +kernel
theorem dX6_isName_67 : decode cX6_isName 67 = .ok (.ifCond .ne 31, 3) := by decide +kernel
theorem dX6_isName_70 : decode cX6_isName 70 = .ok (.aload_n 0, 1) := by decide +kernel
theorem dX6_isName_71 : decode cX6_isName 71 = .ok (.getfield 23, 3) := by decide +kernel
theorem dX6_isName_74 : decode cX6_isName 74 = .ok (.ldc 109, 2) := by decide +kernel
theorem dX6_isName_76 : decode cX6_isName 76 = .ok (.invokevirtual 81, 3) := by decide +kernel
theorem dX6_isName_79 : decode cX6_isName 79 = .ok (.ifCond .ne 19, 3) := by decide +kernel
theorem dX6_isName_82 : decode cX6_isName 82 = .ok (.aload_n 0, 1) := by decide +kernel
theorem dX6_isName_83 : decode cX6_isName 83 = .ok (.getfield 23, 3) := by decide +kernel
theorem dX6_isName_86 : decode cX6_isName 86 = .ok (.ldc 114, 2) := by decide +kernel
theorem dX6_isName_88 : decode cX6_isName 88 = .ok (.invokevirtual 81, 3) := by decide +kernel
theorem dX6_isName_91 : decode cX6_isName 91 = .ok (.ifCond .ne 7, 3) := by decide +kernel
theorem dX6_isName_94 : decode cX6_isName 94 = .ok (.iconst 1, 1) := by decide +kernel
theorem dX6_isName_95 : decode cX6_isName 95 = .ok (.goto 4, 3) := by decide +kernel
theorem dX6_isName_98 : decode cX6_isName 98 = .ok (.iconst 0, 1) := by decide +kernel
theorem dX6_isName_99 : decode cX6_isName 99 = .ok (.ireturn, 1) := by decide +kernel
theorem dX6_takeWhole_0 : decode cX6_takeWhole 0 = .ok (.aload_n 0, 1) := by decide +kernel
theorem dX6_takeWhole_1 : decode cX6_takeWhole 1 = .ok (.getfield 23, 3) := by decide +kernel
theorem dX6_takeWhole_4 : decode cX6_takeWhole 4 = .ok (.invokevirtual 258, 3) := by decide +kernel
theorem dX6_takeWhole_7 : decode cX6_takeWhole 7 = .ok (.ifCond .ne 9, 3) := by decide +kernel
theorem dX6_takeWhole_10 : decode cX6_takeWhole 10 = .ok (.aload_n 0, 1) := by decide +kernel
theorem dX6_takeWhole_11 : decode cX6_takeWhole 11 = .ok (.iconst 1, 1) := by decide +kernel
theorem dX6_takeWhole_12 : decode cX6_takeWhole 12 = .ok (.invokevirtual 60, 3) := by decide +kernel
theorem dX6_takeWhole_15 : decode cX6_takeWhole 15 = .ok (.ireturn, 1) := by decide +kernel
theorem dX6_takeWhole_16 : decode cX6_takeWhole 16 = .ok (.aload_n 0, 1) := by decide +kernel
theorem dX6_takeWhole_17 : decode cX6_takeWhole 17 = .ok (.getfield 23, 3) := by decide +kernel
theorem dX6_takeWhole_20 : decode cX6_takeWhole 20 = .ok (.getfield 144, 3) := by decide +kernel
theorem dX6_takeWhole_23 : decode cX6_takeWhole 23 = .ok (.iload_n 1, 1) := by decide +kernel
theorem dX6_takeWhole_24 : decode cX6_takeWhole 24 = .ok (.i2l, 1) := by decide +kernel
theorem dX6_takeWhole_25 : decode cX6_takeWhole 25 = .ok (.lcmp, 1) := by decide +kernel
theorem dX6_takeWhole_26 : decode cX6_takeWhole 26 = .ok (.ifCond .lt 16, 3) := by decide +kernel
theorem dX6_takeWhole_29 : decode cX6_takeWhole 29 = .ok (.aload_n 0, 1) := by decide +kernel
theorem dX6_takeWhole_30 : decode cX6_takeWhole 30 = .ok (.getfield 23, 3) := by decide +kernel
theorem dX6_takeWhole_33 : decode cX6_takeWhole 33 = .ok (.getfield 144, 3) := by decide +kernel
theorem dX6_takeWhole_36 : decode cX6_takeWhole 36 = .ok (.iload_n 2, 1) := by decide +kernel
theorem dX6_takeWhole_37 : decode cX6_takeWhole 37 = .ok (.i2l, 1) := by decide +kernel
theorem dX6_takeWhole_38 : decode cX6_takeWhole 38 = .ok (.lcmp, 1) := by decide +kernel
theorem dX6_takeWhole_39 : decode cX6_takeWhole 39 = .ok (.ifCond .le 9, 3) := by decide +kernel
theorem dX6_takeWhole_42 : decode cX6_takeWhole 42 = .ok (.aload_n 0, 1) := by decide +kernel
theorem dX6_takeWhole_43 : decode cX6_takeWhole 43 = .ok (.iconst 4, 1) := by decide +kernel
theorem dX6_takeWhole_44 : decode cX6_takeWhole 44 = .ok (.invokevirtual 60, 3) := by decide +kernel
theorem dX6_takeWhole_47 : decode cX6_takeWhole 47 = .ok (.ireturn, 1) := by decide +kernel
theorem dX6_takeWhole_48 : decode cX6_takeWhole 48 = .ok (.aload_n 0, 1) := by decide +kernel
theorem dX6_takeWhole_49 : decode cX6_takeWhole 49 = .ok (.aload_n 0, 1) := by decide +kernel
theorem dX6_takeWhole_50 : decode cX6_takeWhole 50 = .ok (.getfield 23, 3) := by decide +kernel
theorem dX6_takeWhole_53 : decode cX6_takeWhole 53 = .ok (.getfield 144, 3) := by decide +kernel
theorem dX6_takeWhole_56 : decode cX6_takeWhole 56 = .ok (.l2i, 1) := by decide +kernel
theorem dX6_takeWhole_57 : decode cX6_takeWhole 57 = .ok (.putfield 125, 3) := by decide +kernel
theorem dX6_takeWhole_60 : decode cX6_takeWhole 60 = .ok (.aload_n 0, 1) := by decide +kernel
theorem dX6_takeWhole_61 : decode cX6_takeWhole 61 = .ok (.getfield 23, 3) := by decide +kernel
theorem dX6_takeWhole_64 : decode cX6_takeWhole 64 = .ok (.invokevirtual 54, 3) := by decide +kernel
theorem dX6_takeWhole_67 : decode cX6_takeWhole 67 = .ok (.iconst 1, 1) := by decide +kernel
theorem dX6_takeWhole_68 : decode cX6_takeWhole 68 = .ok (.ireturn, 1) := by decide +kernel
theorem dX6_takeNumber_0 : decode cX6_takeNumber 0 = .ok (.aload_n 0, 1) := by decide +kernel
theorem dX6_takeNumber_1 : decode cX6_takeNumber 1 = .ok (.getfield 23, 3) := by decide +kernel
theorem dX6_takeNumber_4 : decode cX6_takeNumber 4 = .ok (.aload_n 1, 1) := by decide +kernel
theorem dX6_takeNumber_5 : decode cX6_takeNumber 5 = .ok (.invokevirtual 81, 3) := by decide +kernel
theorem dX6_takeNumber_8 : decode cX6_takeNumber 8 = .ok (.ifCond .ne 9, 3) := by decide +kernel
theorem dX6_takeNumber_11 : decode cX6_takeNumber 11 = .ok (.aload_n 0, 1) := by decide +kernel
theorem dX6_takeNumber_12 : decode cX6_takeNumber 12 = .ok (.iconst 1, 1) := by decide +kernel
theorem dX6_takeNumber_13 : decode cX6_takeNumber 13 = .ok (.invokevirtual 60, 3) := by decide +kernel
theorem dX6_takeNumber_16 : decode cX6_takeNumber 16 = .ok (.ireturn, 1) := by decide +kernel
theorem dX6_takeNumber_17 : decode cX6_takeNumber 17 = .ok (.aload_n 0, 1) := by decide +kernel
theorem dX6_takeNumber_18 : decode cX6_takeNumber 18 = .ok (.getfield 23, 3) := by decide +kernel
theorem dX6_takeNumber_21 : decode cX6_takeNumber 21 = .ok (.invokevirtual 54, 3) := by decide +kernel
theorem dX6_takeNumber_24 : decode cX6_takeNumber 24 = .ok (.aload_n 0, 1) := by decide +kernel
theorem dX6_takeNumber_25 : decode cX6_takeNumber 25 = .ok (.iload_n 2, 1) := by decide +kernel
theorem dX6_takeNumber_26 : decode cX6_takeNumber 26 = .ok (.iload_n 3, 1) := by decide +kernel
theorem dX6_takeNumber_27 : decode cX6_takeNumber 27 = .ok (.invokevirtual 163, 3) := by decide +kernel
theorem dX6_takeNumber_30 : decode cX6_takeNumber 30 = .ok (.ireturn, 1) := by decide +kernel
theorem dX6_faulty_0 : decode cX6_faulty 0 = .ok (.aload_n 0, 1) := by decide +kernel
theorem dX6_faulty_1 : decode cX6_faulty 1 = .ok (.iload_n 1, 1) := by decide +kernel
theorem dX6_faulty_2 : decode cX6_faulty 2 = .ok (.putfield 36, 3) := by decide +kernel
theorem dX6_faulty_5 : decode cX6_faulty 5 = .ok (.aload_n 0, 1) := by decide +kernel
theorem dX6_faulty_6 : decode cX6_faulty 6 = .ok (.aload_n 0, 1) := by decide +kernel
theorem dX6_faulty_7 : decode cX6_faulty 7 = .ok (.getfield 23, 3) := by decide +kernel
theorem dX6_faulty_10 : decode cX6_faulty 10 = .ok (.getfield 261, 3) := by decide +kernel
theorem dX6_faulty_13 : decode cX6_faulty 13 = .ok (.putfield 39, 3) := by decide +kernel
theorem dX6_faulty_16 : decode cX6_faulty 16 = .ok (.iconst 0, 1) := by decide +kernel
theorem dX6_faulty_17 : decode cX6_faulty 17 = .ok (.ireturn, 1) := by decide +kernel
theorem dX7_init_0 : decode cX7_init 0 = .ok (.aload_n 0, 1) := by decide +kernel
theorem dX7_init_1 : decode cX7_init 1 = .ok (.invokespecial 3, 3) := by decide +kernel
theorem dX7_init_4 : decode cX7_init 4 = .ok (.aload_n 0, 1) := by decide +kernel
theorem dX7_init_5 : decode cX7_init 5 = .ok (.aload_n 1, 1) := by decide +kernel
theorem dX7_init_6 : decode cX7_init 6 = .ok (.putfield 9, 3) := by decide +kernel
theorem dX7_init_9 : decode cX7_init 9 = .ok (.return_, 1) := by decide +kernel
theorem dX7_begin_0 : decode cX7_begin 0 = .ok (.aload_n 0, 1) := by decide +kernel
theorem dX7_begin_1 : decode cX7_begin 1 = .ok (.iload_n 1, 1) := by decide +kernel
theorem dX7_begin_2 : decode cX7_begin 2 = .ok (.aload_n 0, 1) := by decide +kernel
theorem dX7_begin_3 : decode cX7_begin 3 = .ok (.getfield 9, 3) := by decide +kernel
theorem dX7_begin_6 : decode cX7_begin 6 = .ok (.getfield 15, 3) := by decide +kernel
theorem dX7_begin_9 : decode cX7_begin 9 = .ok (.invokestatic 21, 3) := by decide +kernel
theorem dX7_begin_12 : decode cX7_begin 12 = .ok (.putfield 27, 3) := by decide +kernel
theorem dX7_begin_15 : decode cX7_begin 15 = .ok (.aload_n 0, 1) := by decide +kernel
theorem dX7_begin_16 : decode cX7_begin 16 = .ok (.iconst 0, 1) := by decide +kernel
theorem dX7_begin_17 : decode cX7_begin 17 = .ok (.putfield 30, 3) := by decide +kernel
theorem dX7_begin_20 : decode cX7_begin 20 = .ok (.aload_n 0, 1) := by decide +kernel
theorem dX7_begin_21 : decode cX7_begin 21 = .ok (.invokevirtual 33, 3) := by decide +kernel
theorem dX7_begin_24 : decode cX7_begin 24 = .ok (.return_, 1) := by decide +kernel
theorem dX7_next_0 : decode cX7_next 0 = .ok (.aload_n 0, 1) := by decide +kernel
theorem dX7_next_1 : decode cX7_next 1 = .ok (.aload_n 0, 1) := by decide +kernel
theorem dX7_next_2 : decode cX7_next 2 = .ok (.getfield 27, 3) := by decide +kernel
theorem dX7_next_5 : decode cX7_next 5 = .ok (.putfield 36, 3) := by decide +kernel
theorem dX7_next_8 : decode cX7_next 8 = .ok (.aload_n 0, 1) := by decide +kernel
theorem dX7_next_9 : decode cX7_next 9 = .ok (.getfield 30, 3) := by decide +kernel
theorem dX7_next_12 : decode cX7_next 12 = .ok (.istore_n 1, 1) := by decide +kernel
theorem dX7_next_13 : decode cX7_next 13 = .ok (.iload_n 1, 1) := by decide +kernel
theorem dX7_next_14 : decode cX7_next 14 = .ok (.aload_n 0, 1) := by decide +kernel
theorem dX7_next_15 : decode cX7_next 15 = .ok (.getfield 27, 3) := by decide +kernel
theorem dX7_next_18 : decode cX7_next 18 = .ok (.if_icmp .ge 39, 3) := by decide +kernel
theorem dX7_next_21 : decode cX7_next 21 = .ok (.aload_n 0, 1) := by decide +kernel
theorem dX7_next_22 : decode cX7_next 22 = .ok (.getfield 36, 3) := by decide +kernel
theorem dX7_next_25 : decode cX7_next 25 = .ok (.aload_n 0, 1) := by decide +kernel
theorem dX7_next_26 : decode cX7_next 26 = .ok (.getfield 27, 3) := by decide +kernel
theorem dX7_next_29 : decode cX7_next 29 = .ok (.if_icmp .ne 28, 3) := by decide +kernel
theorem dX7_next_32 : decode cX7_next 32 = .ok (.aload_n 0, 1) := by decide +kernel
theorem dX7_next_33 : decode cX7_next 33 = .ok (.getfield 9, 3) := by decide +kernel
theorem dX7_next_36 : decode cX7_next 36 = .ok (.getfield 39, 3) := by decide +kernel
theorem dX7_next_39 : decode cX7_next 39 = .ok (.iload_n 1, 1) := by decide +kernel
theorem dX7_next_40 : decode cX7_next 40 = .ok (.baload, 1) := by decide +kernel
theorem dX7_next_41 : decode cX7_next 41 = .ok (.bipush 32, 2) := by decide +kernel
theorem dX7_next_43 : decode cX7_next 43 = .ok (.if_icmp .eq 8, 3) := by decide +kernel
theorem dX7_next_46 : decode cX7_next 46 = .ok (.aload_n 0, 1) := by decide +kernel
theorem dX7_next_47 : decode cX7_next 47 = .ok (.iload_n 1, 1) := by decide +kernel
theorem dX7_next_48 : decode cX7_next 48 = .ok (.putfield 36, 3) := by decide +kernel
theorem dX7_next_51 : decode cX7_next 51 = .ok (.iinc 1 1, 3) := by decide +kernel
theorem dX7_next_54 : decode cX7_next 54 = .ok (.goto (-41), 3) := by decide +kernel
theorem dX7_next_57 : decode cX7_next 57 = .ok (.aload_n 0, 1) := by decide +kernel
theorem dX7_next_58 : decode cX7_next 58 = .ok (.aload_n 0, 1) := by decide +kernel
theorem dX7_next_59 : decode cX7_next 59 = .ok (.getfield 36, 3) := by decide +kernel
theorem dX7_next_62 : decode cX7_next 62 = .ok (.putfield 30, 3) := by decide +kernel
theorem dX7_next_65 : decode cX7_next 65 = .ok (.aload_n 0, 1) := by decide +kernel
theorem dX7_next_66 : decode cX7_next 66 = .ok (.lconst 0, 1) := by decide +kernel
theorem dX7_next_67 : decode cX7_next 67 = .ok (.putfield 43, 3) := by decide +kernel
theorem dX7_next_70 : decode cX7_next 70 = .ok (.aload_n 0, 1) := by decide +kernel
theorem dX7_next_71 : decode cX7_next 71 = .ok (.getfield 36, 3) := by decide +kernel
theorem dX7_next_74 : decode cX7_next 74 = .ok (.aload_n 0, 1) := by decide +kernel
theorem dX7_next_75 : decode cX7_next 75 = .ok (.getfield 27, 3) := by decide +kernel
theorem dX7_next_78 : decode cX7_next 78 = .ok (.if_icmp .ge 18, 3) := by decide +kernel
theorem dX7_next_81 : decode cX7_next 81 = .ok (.aload_n 0, 1) := by decide +kernel
theorem dX7_next_82 : decode cX7_next 82 = .ok (.getfield 9, 3) := by decide +kernel
theorem dX7_next_85 : decode cX7_next 85 = .ok (.getfield 39, 3) := by decide +kernel
theorem dX7_next_88 : decode cX7_next 88 = .ok (.aload_n 0, 1) := by decide +kernel
theorem dX7_next_89 : decode cX7_next 89 = .ok (.getfield 36, 3) := by decide +kernel
theorem dX7_next_92 : decode cX7_next 92 = .ok (.baload, 1) := by decide +kernel
theorem dX7_next_93 : decode cX7_next 93 = .ok (.goto 4, 3) := by decide +kernel
theorem dX7_next_96 : decode cX7_next 96 = .ok (.iconst (-1), 1) := by decide +kernel
theorem dX7_next_97 : decode cX7_next 97 = .ok (.istore_n 1, 1) := by decide +kernel
theorem dX7_next_98 : decode cX7_next 98 = .ok (.aload_n 0, 1) := by decide +kernel
theorem dX7_next_99 : decode cX7_next 99 = .ok (.getfield 36, 3) := by decide +kernel
theorem dX7_next_102 : decode cX7_next 102 = .ok (.aload_n 0, 1) := by decide +kernel
theorem dX7_next_103 : decode cX7_next 103 = .ok (.getfield 27, 3) := by decide +kernel
theorem dX7_next_106 : decode cX7_next 106 = .ok (.if_icmp .lt 11, 3) := by decide +kernel
theorem dX7_next_109 : decode cX7_next 109 = .ok (.aload_n 0, 1) := by decide +kernel
theorem dX7_next_110 : decode cX7_next 110 = .ok (.iconst 0, 1) := by decide +kernel
theorem dX7_next_111 : decode cX7_next 111 = .ok (.putfield 47, 3) := by decide +kernel
theorem dX7_next_114 : decode cX7_next 114 = .ok (.goto 66, 3) := by decide +kernel
theorem dX7_next_117 : decode cX7_next 117 = .ok (.iload_n 1, 1) := by decide +kernel
theorem dX7_next_118 : decode cX7_next 118 = .ok (.bipush 97, 2) := by decide +kernel
theorem dX7_next_120 : decode cX7_next 120 = .ok (.if_icmp .lt 16, 3) := by decide +kernel
theorem dX7_next_123 : decode cX7_next 123 = .ok (.iload_n 1, 1) := by decide +kernel
theorem dX7_next_124 : decode cX7_next 124 = .ok (.bipush 122, 2) := by decide +kernel
theorem dX7_next_126 : decode cX7_next 126 = .ok (.if_icmp .gt 10, 3) := by decide +kernel
theorem dX7_next_129 : decode cX7_next 129 = .ok (.aload_n 0, 1) := by decide +kernel
theorem dX7_next_130 : decode cX7_next 130 = .ok (.invokevirtual 50, 3) := by decide +kernel
theorem dX7_next_133 : decode cX7_next 133 = .ok (.goto 47, 3) := by decide +kernel
theorem dX7_next_136 : decode cX7_next 136 = .ok (.iload_n 1, 1) := by decide +kernel
theorem dX7_next_137 : decode cX7_next 137 = .ok (.bipush 48, 2) := by decide +kernel
theorem dX7_next_139 : decode cX7_next 139 = .ok (.if_icmp .lt 16, 3) := by decide +kernel
theorem dX7_next_142 : decode cX7_next 142 = .ok (.iload_n 1, 1) := by decide +kernel
theorem dX7_next_143 : decode cX7_next 143 = .ok (.bipush 57, 2) := by decide +kernel
theorem dX7_next_145 : decode cX7_next 145 = .ok (.if_icmp .gt 10, 3) := by decide +kernel
theorem dX7_next_148 : decode cX7_next 148 = .ok (.aload_n 0, 1) := by decide +kernel
theorem dX7_next_149 : decode cX7_next 149 = .ok (.invokevirtual 53, 3) := by decide +kernel
theorem dX7_next_152 : decode cX7_next 152 = .ok (.goto 28, 3) := by decide +kernel
theorem dX7_next_155 : decode cX7_next 155 = .ok (.aload_n 0, 1) := by decide +kernel
theorem dX7_next_156 : decode cX7_next 156 = .ok (.iload_n 1, 1) := by decide +kernel
theorem dX7_next_157 : decode cX7_next 157 = .ok (.bipush 59, 2) := by decide +kernel
theorem dX7_next_159 : decode cX7_next 159 = .ok (.if_icmp .ne 7, 3) := by decide +kernel
theorem dX7_next_162 : decode cX7_next 162 = .ok (.iconst 3, 1) := by decide +kernel
theorem dX7_next_163 : decode cX7_next 163 = .ok (.goto 4, 3) := by decide +kernel
theorem dX7_next_166 : decode cX7_next 166 = .ok (.iconst 4, 1) := by decide +kernel
theorem dX7_next_167 : decode cX7_next 167 = .ok (.putfield 47, 3) := by decide +kernel
theorem dX7_next_170 : decode cX7_next 170 = .ok (.aload_n 0, 1) := by decide +kernel
theorem dX7_next_171 : decode cX7_next 171 = .ok (.aload_n 0, 1) := by decide +kernel
theorem dX7_next_172 : decode cX7_next 172 = .ok (.getfield 36, 3) := by decide +kernel
theorem dX7_next_175 : decode cX7_next 175 = .ok (.iconst 1, 1) := by decide +kernel
theorem dX7_next_176 : decode cX7_next 176 = .ok (.iadd, 1) := by decide +kernel
theorem dX7_next_177 : decode cX7_next 177 = .ok (.putfield 30, 3) := by decide +kernel
theorem dX7_next_180 : decode cX7_next 180 = .ok (.return_, 1) := by decide +kernel
theorem dX7_isEnd_0 : decode cX7_isEnd 0 = .ok (.aload_n 0, 1) := by decide +kernel
theorem dX7_isEnd_1 : decode cX7_isEnd 1 = .ok (.getfield 47, 3) := by decide +kernel
theorem dX7_isEnd_4 : decode cX7_isEnd 4 = .ok (.ifCond .ne 7, 3) := by decide +kernel
theorem dX7_isEnd_7 : decode cX7_isEnd 7 = .ok (.iconst 1, 1) := by decide +kernel
theorem dX7_isEnd_8 : decode cX7_isEnd 8 = .ok (.goto 4, 3) := by decide +kernel
theorem dX7_isEnd_11 : decode cX7_isEnd 11 = .ok (.iconst 0, 1) := by decide +kernel
theorem dX7_isEnd_12 : decode cX7_isEnd 12 = .ok (.ireturn, 1) := by decide +kernel
theorem dX7_isAnyWord_0 : decode cX7_isAnyWord 0 = .ok (.aload_n 0, 1) := by decide +kernel
theorem dX7_isAnyWord_1 : decode cX7_isAnyWord 1 = .ok (.getfield 47, 3) := by decide +kernel
theorem dX7_isAnyWord_4 : decode cX7_isAnyWord 4 = .ok (.iconst 1, 1) := by decide +kernel
theorem dX7_isAnyWord_5 : decode cX7_isAnyWord 5 = .ok (.if_icmp .ne 7, 3) := by decide +kernel
theorem dX7_isAnyWord_8 : decode cX7_isAnyWord 8 = .ok (.iconst 1, 1) := by decide +kernel
theorem dX7_isAnyWord_9 : decode cX7_isAnyWord 9 = .ok (.goto 4, 3) := by decide +kernel
theorem dX7_isAnyWord_12 : decode cX7_isAnyWord 12 = .ok (.iconst 0, 1) := by decide +kernel
theorem dX7_isAnyWord_13 : decode cX7_isAnyWord 13 = .ok (.ireturn, 1) := by decide +kernel
theorem dX7_isWhole_0 : decode cX7_isWhole 0 = .ok (.aload_n 0, 1) := by decide +kernel
theorem dX7_isWhole_1 : decode cX7_isWhole 1 = .ok (.getfield 47, 3) := by decide +kernel
theorem dX7_isWhole_4 : decode cX7_isWhole 4 = .ok (.iconst 2, 1) := by decide +kernel
theorem dX7_isWhole_5 : decode cX7_isWhole 5 = .ok (.if_icmp .ne 7, 3) := by decide +kernel
theorem dX7_isWhole_8 : decode cX7_isWhole 8 = .ok (.iconst 1, 1) := by decide +kernel
theorem dX7_isWhole_9 : decode cX7_isWhole 9 = .ok (.goto 4, 3) := by decide +kernel
theorem dX7_isWhole_12 : decode cX7_isWhole 12 = .ok (.iconst 0, 1) := by decide +kernel
theorem dX7_isWhole_13 : decode cX7_isWhole 13 = .ok (.ireturn, 1) := by decide +kernel
theorem dX7_isSemicolon_0 : decode cX7_isSemicolon 0 = .ok (.aload_n 0, 1) := by decide +kernel
theorem dX7_isSemicolon_1 : decode cX7_isSemicolon 1 = .ok (.getfield 47, 3) := by decide +kernel
theorem dX7_isSemicolon_4 : decode cX7_isSemicolon 4 = .ok (.iconst 3, 1) := by decide +kernel
theorem dX7_isSemicolon_5 : decode cX7_isSemicolon 5 = .ok (.if_icmp .ne 7, 3) := by decide +kernel
theorem dX7_isSemicolon_8 : decode cX7_isSemicolon 8 = .ok (.iconst 1, 1) := by decide +kernel
theorem dX7_isSemicolon_9 : decode cX7_isSemicolon 9 = .ok (.goto 4, 3) := by decide +kernel
theorem dX7_isSemicolon_12 : decode cX7_isSemicolon 12 = .ok (.iconst 0, 1) := by decide +kernel
theorem dX7_isSemicolon_13 : decode cX7_isSemicolon 13 = .ok (.ireturn, 1) := by decide +kernel
theorem dX7_isWord_0 : decode cX7_isWord 0 = .ok (.aload_n 1, 1) := by decide +kernel
theorem dX7_isWord_1 : decode cX7_isWord 1 = .ok (.invokevirtual 56, 3) := by decide +kernel
theorem dX7_isWord_4 : decode cX7_isWord 4 = .ok (.istore_n 2, 1) := by decide +kernel
theorem dX7_isWord_5 : decode cX7_isWord 5 = .ok (.aload_n 0, 1) := by decide +kernel
theorem dX7_isWord_6 : decode cX7_isWord 6 = .ok (.getfield 47, 3) := by decide +kernel
theorem dX7_isWord_9 : decode cX7_isWord 9 = .ok (.iconst 1, 1) := by decide +kernel
theorem dX7_isWord_10 : decode cX7_isWord 10 = .ok (.if_icmp .ne 16, 3) := by decide +kernel
theorem dX7_isWord_13 : decode cX7_isWord 13 = .ok (.aload_n 0, 1) := by decide +kernel
theorem dX7_isWord_14 : decode cX7_isWord 14 = .ok (.getfield 30, 3) := by decide +kernel
theorem dX7_isWord_17 : decode cX7_isWord 17 = .ok (.aload_n 0, 1) := by decide +kernel
theorem dX7_isWord_18 : decode cX7_isWord 18 = .ok (.getfield 36, 3) := by decide +kernel
theorem dX7_isWord_21 : decode cX7_isWord 21 = .ok (.isub, 1) := by decide +kernel
theorem dX7_isWord_22 : decode cX7_isWord 22 = .ok (.iload_n 2, 1) := by decide +kernel
theorem dX7_isWord_23 : decode cX7_isWord 23 = .ok (.if_icmp .eq 5, 3) := by decide +kernel
theorem dX7_isWord_26 : decode cX7_isWord 26 = .ok (.iconst 0, 1) := by decide +kernel
theorem dX7_isWord_27 : decode cX7_isWord 27 = .ok (.ireturn, 1) := by decide +kernel
theorem dX7_isWord_28 : decode cX7_isWord 28 = .ok (.iconst 0, 1) := by decide +kernel
theorem dX7_isWord_29 : decode cX7_isWord 29 = .ok (.istore_n 3, 1) := by decide +kernel
theorem dX7_isWord_30 : decode cX7_isWord 30 = .ok (.iload_n 3, 1) := by decide +kernel
theorem dX7_isWord_31 : decode cX7_isWord 31 = .ok (.iload_n 2, 1) := by decide +kernel
theorem dX7_isWord_32 : decode cX7_isWord 32 = .ok (.if_icmp .ge 46, 3) := by decide +kernel
theorem dX7_isWord_35 : decode cX7_isWord 35 = .ok (.aload_n 0, 1) := by decide +kernel
theorem dX7_isWord_36 : decode cX7_isWord 36 = .ok (.getfield 36, 3) := by decide +kernel
theorem dX7_isWord_39 : decode cX7_isWord 39 = .ok (.iload_n 3, 1) := by decide +kernel
theorem dX7_isWord_40 : decode cX7_isWord 40 = .ok (.iadd, 1) := by decide +kernel
theorem dX7_isWord_41 : decode cX7_isWord 41 = .ok (.aload_n 0, 1) := by decide +kernel
theorem dX7_isWord_42 : decode cX7_isWord 42 = .ok (.getfield 27, 3) := by decide +kernel
theorem dX7_isWord_45 : decode cX7_isWord 45 = .ok (.if_icmp .ge 33, 3) := by decide +kernel
theorem dX7_isWord_48 : decode cX7_isWord 48 = .ok (.aload_n 0, 1) := by decide +kernel
theorem dX7_isWord_49 : decode cX7_isWord 49 = .ok (.getfield 9, 3) := by decide +kernel
theorem dX7_isWord_52 : decode cX7_isWord 52 = .ok (.getfield 39, 3) := by decide +kernel
theorem dX7_isWord_55 : decode cX7_isWord 55 = .ok (.aload_n 0, 1) := by decide +kernel
theorem dX7_isWord_56 : decode cX7_isWord 56 = .ok (.getfield 36, 3) := by decide +kernel
theorem dX7_isWord_59 : decode cX7_isWord 59 = .ok (.iload_n 3, 1) := by decide +kernel
theorem dX7_isWord_60 : decode cX7_isWord 60 = .ok (.iadd, 1) := by decide +kernel
theorem dX7_isWord_61 : decode cX7_isWord 61 = .ok (.baload, 1) := by decide +kernel
theorem dX7_isWord_62 : decode cX7_isWord 62 = .ok (.aload_n 1, 1) := by decide +kernel
theorem dX7_isWord_63 : decode cX7_isWord 63 = .ok (.iload_n 3, 1) := by decide +kernel
theorem dX7_isWord_64 : decode cX7_isWord 64 = .ok (.invokevirtual 61, 3) := by decide +kernel
theorem dX7_isWord_67 : decode cX7_isWord 67 = .ok (.if_icmp .eq 5, 3) := by decide +kernel
theorem dX7_isWord_70 : decode cX7_isWord 70 = .ok (.iconst 0, 1) := by decide +kernel
theorem dX7_isWord_71 : decode cX7_isWord 71 = .ok (.ireturn, 1) := by decide +kernel
theorem dX7_isWord_72 : decode cX7_isWord 72 = .ok (.iinc 3 1, 3) := by decide +kernel
theorem dX7_isWord_75 : decode cX7_isWord 75 = .ok (.goto (-45), 3) := by decide +kernel
theorem dX7_isWord_78 : decode cX7_isWord 78 = .ok (.iconst 1, 1) := by decide +kernel
theorem dX7_isWord_79 : decode cX7_isWord 79 = .ok (.ireturn, 1) := by decide +kernel
theorem dX7_takeLetters_0 : decode cX7_takeLetters 0 = .ok (.aload_n 0, 1) := by decide +kernel
theorem dX7_takeLetters_1 : decode cX7_takeLetters 1 = .ok (.getfield 36, 3) := by decide +kernel
theorem dX7_takeLetters_4 : decode cX7_takeLetters 4 = .ok (.istore_n 1, 1) := by decide +kernel
theorem dX7_takeLetters_5 : decode cX7_takeLetters 5 = .ok (.iload_n 1, 1) := by decide +kernel
theorem dX7_takeLetters_6 : decode cX7_takeLetters 6 = .ok (.aload_n 0, 1) := by decide +kernel
theorem dX7_takeLetters_7 : decode cX7_takeLetters 7 = .ok (.getfield 27, 3) := by decide +kernel
theorem dX7_takeLetters_10 : decode cX7_takeLetters 10 = .ok (.if_icmp .ge 70, 3) := by decide +kernel
theorem dX7_takeLetters_13 : decode cX7_takeLetters 13 = .ok (.aload_n 0, 1) := by decide +kernel
theorem dX7_takeLetters_14 : decode cX7_takeLetters 14 = .ok (.getfield 9, 3) := by decide +kernel
theorem dX7_takeLetters_17 : decode cX7_takeLetters 17 = .ok (.getfield 39, 3) := by decide +kernel
theorem dX7_takeLetters_20 : decode cX7_takeLetters 20 = .ok (.iload_n 1, 1) := by decide +kernel
theorem dX7_takeLetters_21 : decode cX7_takeLetters 21 = .ok (.baload, 1) := by decide +kernel
theorem dX7_takeLetters_22 : decode cX7_takeLetters 22 = .ok (.bipush 97, 2) := by decide +kernel
theorem dX7_takeLetters_24 : decode cX7_takeLetters 24 = .ok (.if_icmp .lt 56, 3) := by decide +kernel
theorem dX7_takeLetters_27 : decode cX7_takeLetters 27 = .ok (.aload_n 0, 1) := by decide +kernel
theorem dX7_takeLetters_28 : decode cX7_takeLetters 28 = .ok (.getfield 9, 3) := by decide +kernel
theorem dX7_takeLetters_31 : decode cX7_takeLetters 31 = .ok (.getfield 39, 3) := by decide +kernel
theorem dX7_takeLetters_34 : decode cX7_takeLetters 34 = .ok (.iload_n 1, 1) := by decide +kernel
theorem dX7_takeLetters_35 : decode cX7_takeLetters 35 = .ok (.baload, 1) := by decide +kernel
theorem dX7_takeLetters_36 : decode cX7_takeLetters 36 = .ok (.bipush 122, 2) := by decide +kernel
theorem dX7_takeLetters_38 : decode cX7_takeLetters 38 = .ok (.if_icmp .gt 42, 3) := by decide +kernel
theorem dX7_takeLetters_41 : decode cX7_takeLetters 41 = .ok (.aload_n 0, 1) := by decide +kernel
theorem dX7_takeLetters_42 : decode cX7_takeLetters 42 = .ok (.aload_n 0, 1) := by decide +kernel
theorem dX7_takeLetters_43 : decode cX7_takeLetters 43 = .ok (.getfield 43, 3) := by decide +kernel
theorem dX7_takeLetters_46 : decode cX7_takeLetters 46 = .ok (.iconst 5, 1) := by decide +kernel
theorem dX7_takeLetters_47 : decode cX7_takeLetters 47 = .ok (.lshl, 1) := by decide +kernel
theorem dX7_takeLetters_48 : decode cX7_takeLetters 48 = .ok (.aload_n 0, 1) := by decide +kernel
theorem dX7_takeLetters_49 : decode cX7_takeLetters 49 = .ok (.getfield 9, 3) := by decide +kernel
theorem dX7_takeLetters_52 : decode cX7_takeLetters 52 = .ok (.getfield 39, 3) := by decide +kernel
theorem dX7_takeLetters_55 : decode cX7_takeLetters 55 = .ok (.iload_n 1, 1) := by decide +kernel
theorem dX7_takeLetters_56 : decode cX7_takeLetters 56 = .ok (.baload, 1) := by decide +kernel
theorem dX7_takeLetters_57 : decode cX7_takeLetters 57 = .ok (.bipush 97, 2) := by decide +kernel
theorem dX7_takeLetters_59 : decode cX7_takeLetters 59 = .ok (.isub, 1) := by decide +kernel
theorem dX7_takeLetters_60 : decode cX7_takeLetters 60 = .ok (.iconst 1, 1) := by decide +kernel
theorem dX7_takeLetters_61 : decode cX7_takeLetters 61 = .ok (.iadd, 1) := by decide +kernel
theorem dX7_takeLetters_62 : decode cX7_takeLetters 62 = .ok (.i2l, 1) := by decide +kernel
theorem dX7_takeLetters_63 : decode cX7_takeLetters 63 = .ok (.lor, 1) := by decide +kernel
theorem dX7_takeLetters_64 : decode cX7_takeLetters 64 = .ok (.putfield 43, 3) := by decide +kernel
theorem dX7_takeLetters_67 : decode cX7_takeLetters 67 = .ok (.aload_n 0, 1) := by decide +kernel
theorem dX7_takeLetters_68 : decode cX7_takeLetters 68 = .ok (.iload_n 1, 1) := by decide +kernel
theorem dX7_takeLetters_69 : decode cX7_takeLetters 69 = .ok (.iconst 1, 1) := by decide +kernel
theorem dX7_takeLetters_70 : decode cX7_takeLetters 70 = .ok (.iadd, 1) := by decide +kernel
theorem dX7_takeLetters_71 : decode cX7_takeLetters 71 = .ok (.putfield 30, 3) := by decide +kernel
theorem dX7_takeLetters_74 : decode cX7_takeLetters 74 = .ok (.iinc 1 1, 3) := by decide +kernel
theorem dX7_takeLetters_77 : decode cX7_takeLetters 77 = .ok (.goto (-72), 3) := by decide +kernel
theorem dX7_takeLetters_80 : decode cX7_takeLetters 80 = .ok (.aload_n 0, 1) := by decide +kernel
theorem dX7_takeLetters_81 : decode cX7_takeLetters 81 = .ok (.aload_n 0, 1) := by decide +kernel
theorem dX7_takeLetters_82 : decode cX7_takeLetters 82 = .ok (.getfield 30, 3) := by decide +kernel
theorem dX7_takeLetters_85 : decode cX7_takeLetters 85 = .ok (.aload_n 0, 1) := by decide +kernel
theorem dX7_takeLetters_86 : decode cX7_takeLetters 86 = .ok (.getfield 36, 3) := by decide +kernel
theorem dX7_takeLetters_89 : decode cX7_takeLetters 89 = .ok (.isub, 1) := by decide +kernel
theorem dX7_takeLetters_90 : decode cX7_takeLetters 90 = .ok (.bipush 8, 2) := by decide +kernel
theorem dX7_takeLetters_92 : decode cX7_takeLetters 92 = .ok (.if_icmp .gt 7, 3) := by decide +kernel
theorem dX7_takeLetters_95 : decode cX7_takeLetters 95 = .ok (.iconst 1, 1) := by decide +kernel
theorem dX7_takeLetters_96 : decode cX7_takeLetters 96 = .ok (.goto 4, 3) := by decide +kernel
theorem dX7_takeLetters_99 : decode cX7_takeLetters 99 = .ok (.iconst 4, 1) := by decide +kernel
theorem dX7_takeLetters_100 : decode cX7_takeLetters 100 = .ok (.putfield 47, 3) := by decide +kernel
theorem dX7_takeLetters_103 : decode cX7_takeLetters 103 = .ok (.return_, 1) := by decide +kernel
theorem dX7_takeDigits_0 : decode cX7_takeDigits 0 = .ok (.aload_n 0, 1) := by decide +kernel
theorem dX7_takeDigits_1 : decode cX7_takeDigits 1 = .ok (.getfield 36, 3) := by decide +kernel
theorem dX7_takeDigits_4 : decode cX7_takeDigits 4 = .ok (.istore_n 1, 1) := by decide +kernel
theorem dX7_takeDigits_5 : decode cX7_takeDigits 5 = .ok (.iload_n 1, 1) := by decide +kernel
theorem dX7_takeDigits_6 : decode cX7_takeDigits 6 = .ok (.aload_n 0, 1) := by decide +kernel
theorem dX7_takeDigits_7 : decode cX7_takeDigits 7 = .ok (.getfield 27, 3) := by decide +kernel
theorem dX7_takeDigits_10 : decode cX7_takeDigits 10 = .ok (.if_icmp .ge 70, 3) := by decide +kernel
theorem dX7_takeDigits_13 : decode cX7_takeDigits 13 = .ok (.aload_n 0, 1) := by decide +kernel
theorem dX7_takeDigits_14 : decode cX7_takeDigits 14 = .ok (.getfield 9, 3) := by decide +kernel
theorem dX7_takeDigits_17 : decode cX7_takeDigits 17 = .ok (.getfield 39, 3) := by decide +kernel
theorem dX7_takeDigits_20 : decode cX7_takeDigits 20 = .ok (.iload_n 1, 1) := by decide +kernel
theorem dX7_takeDigits_21 : decode cX7_takeDigits 21 = .ok (.baload, 1) := by decide +kernel
theorem dX7_takeDigits_22 : decode cX7_takeDigits 22 = .ok (.bipush 48, 2) := by decide +kernel
theorem dX7_takeDigits_24 : decode cX7_takeDigits 24 = .ok (.if_icmp .lt 56, 3) := by decide +kernel
theorem dX7_takeDigits_27 : decode cX7_takeDigits 27 = .ok (.aload_n 0, 1) := by decide +kernel
theorem dX7_takeDigits_28 : decode cX7_takeDigits 28 = .ok (.getfield 9, 3) := by decide +kernel
theorem dX7_takeDigits_31 : decode cX7_takeDigits 31 = .ok (.getfield 39, 3) := by decide +kernel
theorem dX7_takeDigits_34 : decode cX7_takeDigits 34 = .ok (.iload_n 1, 1) := by decide +kernel
theorem dX7_takeDigits_35 : decode cX7_takeDigits 35 = .ok (.baload, 1) := by decide +kernel
theorem dX7_takeDigits_36 : decode cX7_takeDigits 36 = .ok (.bipush 57, 2) := by decide +kernel
theorem dX7_takeDigits_38 : decode cX7_takeDigits 38 = .ok (.if_icmp .gt 42, 3) := by decide +kernel
theorem dX7_takeDigits_41 : decode cX7_takeDigits 41 = .ok (.aload_n 0, 1) := by decide +kernel
theorem dX7_takeDigits_42 : decode cX7_takeDigits 42 = .ok (.aload_n 0, 1) := by decide +kernel
theorem dX7_takeDigits_43 : decode cX7_takeDigits 43 = .ok (.getfield 43, 3) := by decide +kernel
theorem dX7_takeDigits_46 : decode cX7_takeDigits 46 = .ok (.ldc2_w 65, 3) := by decide +kernel
theorem dX7_takeDigits_49 : decode cX7_takeDigits 49 = .ok (.lmul, 1) := by decide +kernel
theorem dX7_takeDigits_50 : decode cX7_takeDigits 50 = .ok (.aload_n 0, 1) := by decide +kernel
theorem dX7_takeDigits_51 : decode cX7_takeDigits 51 = .ok (.getfield 9, 3) := by decide +kernel
theorem dX7_takeDigits_54 : decode cX7_takeDigits 54 = .ok (.getfield 39, 3) := by decide +kernel
theorem dX7_takeDigits_57 : decode cX7_takeDigits 57 = .ok (.iload_n 1, 1) := by decide +kernel
theorem dX7_takeDigits_58 : decode cX7_takeDigits 58 = .ok (.baload, 1) := by decide +kernel
theorem dX7_takeDigits_59 : decode cX7_takeDigits 59 = .ok (.bipush 48, 2) := by decide +kernel
theorem dX7_takeDigits_61 : decode cX7_takeDigits 61 = .ok (.isub, 1) := by decide +kernel
theorem dX7_takeDigits_62 : decode cX7_takeDigits 62 = .ok (.i2l, 1) := by decide +kernel
theorem dX7_takeDigits_63 : decode cX7_takeDigits 63 = .ok (.ladd, 1) := by decide +kernel
theorem dX7_takeDigits_64 : decode cX7_takeDigits 64 = .ok (.putfield 43, 3) := by decide +kernel
theorem dX7_takeDigits_67 : decode cX7_takeDigits 67 = .ok (.aload_n 0, 1) := by decide +kernel
theorem dX7_takeDigits_68 : decode cX7_takeDigits 68 = .ok (.iload_n 1, 1) := by decide +kernel
theorem dX7_takeDigits_69 : decode cX7_takeDigits 69 = .ok (.iconst 1, 1) := by decide +kernel
theorem dX7_takeDigits_70 : decode cX7_takeDigits 70 = .ok (.iadd, 1) := by decide +kernel
theorem dX7_takeDigits_71 : decode cX7_takeDigits 71 = .ok (.putfield 30, 3) := by decide +kernel
theorem dX7_takeDigits_74 : decode cX7_takeDigits 74 = .ok (.iinc 1 1, 3) := by decide +kernel
theorem dX7_takeDigits_77 : decode cX7_takeDigits 77 = .ok (.goto (-72), 3) := by decide +kernel
theorem dX7_takeDigits_80 : decode cX7_takeDigits 80 = .ok (.aload_n 0, 1) := by decide +kernel
theorem dX7_takeDigits_81 : decode cX7_takeDigits 81 = .ok (.aload_n 0, 1) := by decide +kernel
theorem dX7_takeDigits_82 : decode cX7_takeDigits 82 = .ok (.getfield 30, 3) := by decide +kernel
theorem dX7_takeDigits_85 : decode cX7_takeDigits 85 = .ok (.aload_n 0, 1) := by decide +kernel
theorem dX7_takeDigits_86 : decode cX7_takeDigits 86 = .ok (.getfield 36, 3) := by decide +kernel
theorem dX7_takeDigits_89 : decode cX7_takeDigits 89 = .ok (.isub, 1) := by decide +kernel
theorem dX7_takeDigits_90 : decode cX7_takeDigits 90 = .ok (.iconst 3, 1) := by decide +kernel
theorem dX7_takeDigits_91 : decode cX7_takeDigits 91 = .ok (.if_icmp .gt 7, 3) := by decide +kernel
theorem dX7_takeDigits_94 : decode cX7_takeDigits 94 = .ok (.iconst 2, 1) := by decide +kernel
theorem dX7_takeDigits_95 : decode cX7_takeDigits 95 = .ok (.goto 4, 3) := by decide +kernel
theorem dX7_takeDigits_98 : decode cX7_takeDigits 98 = .ok (.iconst 4, 1) := by decide +kernel
theorem dX7_takeDigits_99 : decode cX7_takeDigits 99 = .ok (.putfield 47, 3) := by decide +kernel
theorem dX7_takeDigits_102 : decode cX7_takeDigits 102 = .ok (.return_, 1) := by decide +kernel
theorem dX8_init_0 : decode cX8_init 0 = .ok (.aload_n 0, 1) := by decide +kernel
theorem dX8_init_1 : decode cX8_init 1 = .ok (.invokespecial 1, 3) := by decide +kernel
theorem dX8_init_4 : decode cX8_init 4 = .ok (.aload_n 0, 1) := by decide +kernel
theorem dX8_init_5 : decode cX8_init 5 = .ok (.new 7, 3) := by decide +kernel
theorem dX8_init_8 : decode cX8_init 8 = .ok (.dup, 1) := by decide +kernel
theorem dX8_init_9 : decode cX8_init 9 = .ok (.invokespecial 9, 3) := by decide +kernel
theorem dX8_init_12 : decode cX8_init 12 = .ok (.putfield 10, 3) := by decide +kernel
theorem dX8_init_15 : decode cX8_init 15 = .ok (.aload_n 0, 1) := by decide +kernel
theorem dX8_init_16 : decode cX8_init 16 = .ok (.new 16, 3) := by decide +kernel
theorem dX8_init_19 : decode cX8_init 19 = .ok (.dup, 1) := by decide +kernel
theorem dX8_init_20 : decode cX8_init 20 = .ok (.aload_n 0, 1) := by decide +kernel
theorem dX8_init_21 : decode cX8_init 21 = .ok (.getfield 10, 3) := by decide +kernel
theorem dX8_init_24 : decode cX8_init 24 = .ok (.invokespecial 18, 3) := by decide +kernel
theorem dX8_init_27 : decode cX8_init 27 = .ok (.putfield 21, 3) := by decide +kernel
theorem dX8_init_30 : decode cX8_init 30 = .ok (.aload_n 0, 1) := by decide +kernel
theorem dX8_init_31 : decode cX8_init 31 = .ok (.new 25, 3) := by decide +kernel
theorem dX8_init_34 : decode cX8_init 34 = .ok (.dup, 1) := by decide +kernel
theorem dX8_init_35 : decode cX8_init 35 = .ok (.invokespecial 27, 3) := by decide +kernel
theorem dX8_init_38 : decode cX8_init 38 = .ok (.putfield 28, 3) := by decide +kernel
theorem dX8_init_41 : decode cX8_init 41 = .ok (.aload_n 0, 1) := by decide +kernel
theorem dX8_init_42 : decode cX8_init 42 = .ok (.new 25, 3) := by decide +kernel
theorem dX8_init_45 : decode cX8_init 45 = .ok (.dup, 1) := by decide +kernel
theorem dX8_init_46 : decode cX8_init 46 = .ok (.invokespecial 27, 3) := by decide +kernel
theorem dX8_init_49 : decode cX8_init 49 = .ok (.putfield 32, 3) := by decide +kernel
theorem dX8_init_52 : decode cX8_init 52 = .ok (.aload_n 0, 1) := by decide +kernel
theorem dX8_init_53 : decode cX8_init 53 = .ok (.bipush 60, 2) := by decide +kernel
theorem dX8_init_55 : decode cX8_init 55 = .ok (.newarray .int, 2) := by decide +kernel
theorem dX8_init_57 : decode cX8_init 57 = .ok (.putfield 35, 3) := by decide +kernel
theorem dX8_init_60 : decode cX8_init 60 = .ok (.aload_n 0, 1) := by decide +kernel
theorem dX8_init_61 : decode cX8_init 61 = .ok (.bipush 6, 2) := by decide +kernel
theorem dX8_init_63 : decode cX8_init 63 = .ok (.anewarray 39, 3) := by decide +kernel
theorem dX8_init_66 : decode cX8_init 66 = .ok (.putfield 41, 3) := by decide +kernel
theorem dX8_init_69 : decode cX8_init 69 = .ok (.iconst 0, 1) := by decide +kernel
theorem dX8_init_70 : decode cX8_init 70 = .ok (.istore_n 1, 1) := by decide +kernel
theorem dX8_init_71 : decode cX8_init 71 = .ok (.iload_n 1, 1) := by decide +kernel
theorem dX8_init_72 : decode cX8_init 72 = .ok (.bipush 6, 2) := by decide +kernel
theorem dX8_init_74 : decode cX8_init 74 = .ok (.if_icmp .ge 22, 3) := by decide +kernel
theorem dX8_init_77 : decode cX8_init 77 = .ok (.aload_n 0, 1) := by decide +kernel
theorem dX8_init_78 : decode cX8_init 78 = .ok (.getfield 41, 3) := by decide +kernel
theorem dX8_init_81 : decode cX8_init 81 = .ok (.iload_n 1, 1) := by decide +kernel
theorem dX8_init_82 : decode cX8_init 82 = .ok (.new 39, 3) := by decide +kernel
theorem dX8_init_85 : decode cX8_init 85 = .ok (.dup, 1) := by decide +kernel
theorem dX8_init_86 : decode cX8_init 86 = .ok (.invokespecial 45, 3) := by decide +kernel
theorem dX8_init_89 : decode cX8_init 89 = .ok (.aastore, 1) := by decide +kernel
theorem dX8_init_90 : decode cX8_init 90 = .ok (.iinc 1 1, 3) := by decide +kernel
theorem dX8_init_93 : decode cX8_init 93 = .ok (.goto (-22), 3) := by decide +kernel
theorem dX8_init_96 : decode cX8_init 96 = .ok (.aload_n 0, 1) := by decide +kernel
theorem dX8_init_97 : decode cX8_init 97 = .ok (.bipush 6, 2) := by decide +kernel
theorem dX8_init_99 : decode cX8_init 99 = .ok (.newarray .boolean, 2) := by decide +kernel
theorem dX8_init_101 : decode cX8_init 101 = .ok (.putfield 46, 3) := by decide +kernel
theorem dX8_init_104 : decode cX8_init 104 = .ok (.aload_n 0, 1) := by decide +kernel
theorem dX8_init_105 : decode cX8_init 105 = .ok (.bipush 60, 2) := by decide +kernel
theorem dX8_init_107 : decode cX8_init 107 = .ok (.newarray .int, 2) := by decide +kernel
theorem dX8_init_109 : decode cX8_init 109 = .ok (.putfield 50, 3) := by decide +kernel
theorem dX8_init_112 : decode cX8_init 112 = .ok (.aload_n 0, 1) := by decide +kernel
theorem dX8_init_113 : decode cX8_init 113 = .ok (.new 39, 3) := by decide +kernel
theorem dX8_init_116 : decode cX8_init 116 = .ok (.dup, 1) := by decide +kernel
theorem dX8_init_117 : decode cX8_init 117 = .ok (.invokespecial 45, 3) := by decide +kernel
theorem dX8_init_120 : decode cX8_init 120 = .ok (.putfield 53, 3) := by decide +kernel
theorem dX8_init_123 : decode cX8_init 123 = .ok (.aload_n 0, 1) := by decide +kernel
theorem dX8_init_124 : decode cX8_init 124 = .ok (.new 57, 3) := by decide +kernel
theorem dX8_init_127 : decode cX8_init 127 = .ok (.dup, 1) := by decide +kernel
theorem dX8_init_128 : decode cX8_init 128 = .ok (.invokespecial 59, 3) := by decide +kernel
theorem dX8_init_131 : decode cX8_init 131 = .ok (.putfield 60, 3) := by decide +kernel
theorem dX8_init_134 : decode cX8_init 134 = .ok (.aload_n 0, 1) := by decide +kernel
theorem dX8_init_135 : decode cX8_init 135 = .ok (.bipush 6, 2) := by decide +kernel
theorem dX8_init_137 : decode cX8_init 137 = .ok (.newarray .int, 2) := by decide +kernel
theorem dX8_init_139 : decode cX8_init 139 = .ok (.putfield 64, 3) := by decide +kernel
theorem dX8_init_142 : decode cX8_init 142 = .ok (.aload_n 0, 1) := by decide +kernel
theorem dX8_init_143 : decode cX8_init 143 = .ok (.bipush 6, 2) := by decide +kernel
theorem dX8_init_145 : decode cX8_init 145 = .ok (.newarray .int, 2) := by decide +kernel
theorem dX8_init_147 : decode cX8_init 147 = .ok (.putfield 67, 3) := by decide +kernel
theorem dX8_init_150 : decode cX8_init 150 = .ok (.aload_n 0, 1) := by decide +kernel
theorem dX8_init_151 : decode cX8_init 151 = .ok (.iconst 0, 1) := by decide +kernel
theorem dX8_init_152 : decode cX8_init 152 = .ok (.putfield 70, 3) := by decide +kernel
theorem dX8_init_155 : decode cX8_init 155 = .ok (.return_, 1) := by decide +kernel
theorem dX8_feed_0 : decode cX8_feed 0 = .ok (.aload_n 0, 1) := by decide +kernel
theorem dX8_feed_1 : decode cX8_feed 1 = .ok (.getfield 10, 3) := by decide +kernel
theorem dX8_feed_4 : decode cX8_feed 4 = .ok (.getfield 74, 3) := by decide +kernel
theorem dX8_feed_7 : decode cX8_feed 7 = .ok (.sipush 880, 3) := by decide +kernel
theorem dX8_feed_10 : decode cX8_feed 10 = .ok (.if_icmp .le 5, 3) := by decide +kernel
theorem dX8_feed_13 : decode cX8_feed 13 = .ok (.iconst (-1), 1) := by decide +kernel
theorem dX8_feed_14 : decode cX8_feed 14 = .ok (.ireturn, 1) := by decide +kernel
theorem dX8_feed_15 : decode cX8_feed 15 = .ok (.aload_n 0, 1) := by decide +kernel
theorem dX8_feed_16 : decode cX8_feed 16 = .ok (.getfield 10, 3) := by decide +kernel
theorem dX8_feed_19 : decode cX8_feed 19 = .ok (.iload_n 1, 1) := by decide +kernel
theorem dX8_feed_20 : decode cX8_feed 20 = .ok (.invokevirtual 77, 3) := by decide +kernel
theorem dX8_feed_23 : decode cX8_feed 23 = .ok (.aload_n 0, 1) := by decide +kernel
theorem dX8_feed_24 : decode cX8_feed 24 = .ok (.getfield 10, 3) := by decide +kernel
theorem dX8_feed_27 : decode cX8_feed 27 = .ok (.iload_n 2, 1) := by decide +kernel
theorem dX8_feed_28 : decode cX8_feed 28 = .ok (.invokevirtual 77, 3) := by decide +kernel
theorem dX8_feed_31 : decode cX8_feed 31 = .ok (.aload_n 0, 1) := by decide +kernel
theorem dX8_feed_32 : decode cX8_feed 32 = .ok (.getfield 10, 3) := by decide +kernel
theorem dX8_feed_35 : decode cX8_feed 35 = .ok (.iload_n 3, 1) := by decide +kernel
theorem dX8_feed_36 : decode cX8_feed 36 = .ok (.invokevirtual 77, 3) := by decide +kernel
theorem dX8_feed_39 : decode cX8_feed 39 = .ok (.aload_n 0, 1) := by decide +kernel
theorem dX8_feed_40 : decode cX8_feed 40 = .ok (.getfield 10, 3) := by decide +kernel
theorem dX8_feed_43 : decode cX8_feed 43 = .ok (.iload 4, 2) := by decide +kernel
theorem dX8_feed_45 : decode cX8_feed 45 = .ok (.invokevirtual 77, 3) := by decide +kernel
theorem dX8_feed_48 : decode cX8_feed 48 = .ok (.aload_n 0, 1) := by decide +kernel
theorem dX8_feed_49 : decode cX8_feed 49 = .ok (.getfield 10, 3) := by decide +kernel
theorem dX8_feed_52 : decode cX8_feed 52 = .ok (.iload 5, 2) := by decide +kernel
theorem dX8_feed_54 : decode cX8_feed 54 = .ok (.invokevirtual 77, 3) := by decide +kernel
theorem dX8_feed_57 : decode cX8_feed 57 = .ok (.aload_n 0, 1) := by decide +kernel
theorem dX8_feed_58 : decode cX8_feed 58 = .ok (.getfield 10, 3) := by decide +kernel
theorem dX8_feed_61 : decode cX8_feed 61 = .ok (.getfield 74, 3) := by decide +kernel
theorem dX8_feed_64 : decode cX8_feed 64 = .ok (.ireturn, 1) := by decide +kernel
theorem dX8_hill_0 : decode cX8_hill 0 = .ok (.iload_n 1, 1) := by decide +kernel
theorem dX8_hill_1 : decode cX8_hill 1 = .ok (.ifCond .lt 14, 3) := by decide +kernel
theorem dX8_hill_4 : decode cX8_hill 4 = .ok (.iload_n 1, 1) := by decide +kernel
theorem dX8_hill_5 : decode cX8_hill 5 = .ok (.aload_n 0, 1) := by decide +kernel
theorem dX8_hill_6 : decode cX8_hill 6 = .ok (.getfield 10, 3) := by decide +kernel
theorem dX8_hill_9 : decode cX8_hill 9 = .ok (.getfield 74, 3) := by decide +kernel
theorem dX8_hill_12 : decode cX8_hill 12 = .ok (.if_icmp .le 9, 3) := by decide +kernel
theorem dX8_hill_15 : decode cX8_hill 15 = .ok (.aload_n 0, 1) := by decide +kernel
theorem dX8_hill_16 : decode cX8_hill 16 = .ok (.iconst 2, 1) := by decide +kernel
theorem dX8_hill_17 : decode cX8_hill 17 = .ok (.invokevirtual 81, 3) := by decide +kernel
theorem dX8_hill_20 : decode cX8_hill 20 = .ok (.ireturn, 1) := by decide +kernel
theorem dX8_hill_21 : decode cX8_hill 21 = .ok (.aload_n 0, 1) := by decide +kernel
theorem dX8_hill_22 : decode cX8_hill 22 = .ok (.getfield 21, 3) := by decide +kernel
theorem dX8_hill_25 : decode cX8_hill 25 = .ok (.iload_n 1, 1) := by decide +kernel
theorem dX8_hill_26 : decode cX8_hill 26 = .ok (.aload_n 0, 1) := by decide +kernel
theorem dX8_hill_27 : decode cX8_hill 27 = .ok (.getfield 32, 3) := by decide +kernel
theorem dX8_hill_30 : decode cX8_hill 30 = .ok (.invokevirtual 85, 3) := by decide +kernel
theorem dX8_hill_33 : decode cX8_hill 33 = .ok (.istore_n 2, 1) := by decide +kernel
theorem dX8_hill_34 : decode cX8_hill 34 = .ok (.aload_n 0, 1) := by decide +kernel
theorem dX8_hill_35 : decode cX8_hill 35 = .ok (.getfield 10, 3) := by decide +kernel
theorem dX8_hill_38 : decode cX8_hill 38 = .ok (.iconst 0, 1) := by decide +kernel
theorem dX8_hill_39 : decode cX8_hill 39 = .ok (.putfield 74, 3) := by decide +kernel
theorem dX8_hill_42 : decode cX8_hill 42 = .ok (.iload_n 2, 1) := by decide +kernel
theorem dX8_hill_43 : decode cX8_hill 43 = .ok (.ifCond .ne 9, 3) := by decide +kernel
theorem dX8_hill_46 : decode cX8_hill 46 = .ok (.aload_n 0, 1) := by decide +kernel
theorem dX8_hill_47 : decode cX8_hill 47 = .ok (.iconst 4, 1) := by decide +kernel
theorem dX8_hill_48 : decode cX8_hill 48 = .ok (.invokevirtual 81, 3) := by decide +kernel
theorem dX8_hill_51 : decode cX8_hill 51 = .ok (.ireturn, 1) := by decide +kernel
theorem dX8_hill_52 : decode cX8_hill 52 = .ok (.aload_n 0, 1) := by decide +kernel
theorem dX8_hill_53 : decode cX8_hill 53 = .ok (.getfield 28, 3) := by decide +kernel
theorem dX8_hill_56 : decode cX8_hill 56 = .ok (.astore_n 3, 1) := by decide +kernel
theorem dX8_hill_57 : decode cX8_hill 57 = .ok (.aload_n 0, 1) := by decide +kernel
theorem dX8_hill_58 : decode cX8_hill 58 = .ok (.aload_n 0, 1) := by decide +kernel
theorem dX8_hill_59 : decode cX8_hill 59 = .ok (.getfield 32, 3) := by decide +kernel
theorem dX8_hill_62 : decode cX8_hill 62 = .ok (.putfield 28, 3) := by decide +kernel
theorem dX8_hill_65 : decode cX8_hill 65 = .ok (.aload_n 0, 1) := by decide +kernel
theorem dX8_hill_66 : decode cX8_hill 66 = .ok (.aload_n 3, 1) := by decide +kernel
theorem dX8_hill_67 : decode cX8_hill 67 = .ok (.putfield 32, 3) := by decide +kernel
theorem dX8_hill_70 : decode cX8_hill 70 = .ok (.aload_n 0, 1) := by decide +kernel
theorem dX8_hill_71 : decode cX8_hill 71 = .ok (.getfield 60, 3) := by decide +kernel
theorem dX8_hill_74 : decode cX8_hill 74 = .ok (.iconst 0, 1) := by decide +kernel
theorem dX8_hill_75 : decode cX8_hill 75 = .ok (.putfield 89, 3) := by decide +kernel
theorem dX8_hill_78 : decode cX8_hill 78 = .ok (.aload_n 0, 1) := by decide +kernel
theorem dX8_hill_79 : decode cX8_hill 79 = .ok (.invokevirtual 92, 3) := by decide +kernel
theorem dX8_hill_82 : decode cX8_hill 82 = .ok (.aload_n 0, 1) := by decide +kernel
theorem dX8_hill_83 : decode cX8_hill 83 = .ok (.aload_n 0, 1) := by decide +kernel
theorem dX8_hill_84 : decode cX8_hill 84 = .ok (.getfield 28, 3) := by decide +kernel
theorem dX8_hill_87 : decode cX8_hill 87 = .ok (.getfield 95, 3) := by decide +kernel
theorem dX8_hill_90 : decode cX8_hill 90 = .ok (.invokevirtual 98, 3) := by decide +kernel
theorem dX8_hill_93 : decode cX8_hill 93 = .ok (.ireturn, 1) := by decide +kernel
theorem dX8_fault_0 : decode cX8_fault 0 = .ok (.aload_n 0, 1) := by decide +kernel
theorem dX8_fault_1 : decode cX8_fault 1 = .ok (.getfield 21, 3) := by decide +kernel
theorem dX8_fault_4 : decode cX8_fault 4 = .ok (.getfield 101, 3) := by decide +kernel
theorem dX8_fault_7 : decode cX8_fault 7 = .ok (.ireturn, 1) := by decide +kernel
theorem dX8_where_0 : decode cX8_where 0 = .ok (.aload_n 0, 1) := by decide +kernel
theorem dX8_where_1 : decode cX8_where 1 = .ok (.getfield 70, 3) := by decide +kernel
theorem dX8_where_4 : decode cX8_where 4 = .ok (.iconst 4, 1) := by decide +kernel
theorem dX8_where_5 : decode cX8_where 5 = .ok (.if_icmp .ne 13, 3) := by decide +kernel
theorem dX8_where_8 : decode cX8_where 8 = .ok (.aload_n 0, 1) := by decide +kernel
theorem dX8_where_9 : decode cX8_where 9 = .ok (.getfield 21, 3) := by decide +kernel
theorem dX8_where_12 : decode cX8_where 12 = .ok (.getfield 104, 3) := by decide +kernel
theorem dX8_where_15 : decode cX8_where 15 = .ok (.goto 4, 3) := by decide +kernel
theorem dX8_where_18 : decode cX8_where 18 = .ok (.iconst (-1), 1) := by decide +kernel
theorem dX8_where_19 : decode cX8_where 19 = .ok (.ireturn, 1) := by decide +kernel
theorem dX8_level_0 : decode cX8_level 0 = .ok (.aload_n 0, 1) := by decide +kernel
theorem dX8_level_1 : decode cX8_level 1 = .ok (.invokevirtual 107, 3) := by decide +kernel
theorem dX8_level_4 : decode cX8_level 4 = .ok (.ifCond .ne 10, 3) := by decide +kernel
theorem dX8_level_7 : decode cX8_level 7 = .ok (.iload_n 1, 1) := by decide +kernel
theorem dX8_level_8 : decode cX8_level 8 = .ok (.invokestatic 111, 3) := by decide +kernel
theorem dX8_level_11 : decode cX8_level 11 = .ok (.ifCond .ne 9, 3) := by decide +kernel
theorem dX8_level_14 : decode cX8_level 14 = .ok (.aload_n 0, 1) := by decide +kernel
theorem dX8_level_15 : decode cX8_level 15 = .ok (.iconst 1, 1) := by decide +kernel
theorem dX8_level_16 : decode cX8_level 16 = .ok (.invokevirtual 81, 3) := by decide +kernel
theorem dX8_level_19 : decode cX8_level 19 = .ok (.ireturn, 1) := by decide +kernel
theorem dX8_level_20 : decode cX8_level 20 = .ok (.aload_n 0, 1) := by decide +kernel
theorem dX8_level_21 : decode cX8_level 21 = .ok (.aload_n 0, 1) := by decide +kernel
theorem dX8_level_22 : decode cX8_level 22 = .ok (.getfield 35, 3) := by decide +kernel
theorem dX8_level_25 : decode cX8_level 25 = .ok (.iload_n 1, 1) := by decide +kernel
theorem dX8_level_26 : decode cX8_level 26 = .ok (.iaload, 1) := by decide +kernel
theorem dX8_level_27 : decode cX8_level 27 = .ok (.invokevirtual 98, 3) := by decide +kernel
theorem dX8_level_30 : decode cX8_level 30 = .ok (.ireturn, 1) := by decide +kernel
theorem dX8_plan_0 : decode cX8_plan 0 = .ok (.aload_n 0, 1) := by decide +kernel
theorem dX8_plan_1 : decode cX8_plan 1 = .ok (.invokevirtual 107, 3) := by decide +kernel
theorem dX8_plan_4 : decode cX8_plan 4 = .ok (.ifCond .eq 9, 3) := by decide +kernel
theorem dX8_plan_7 : decode cX8_plan 7 = .ok (.aload_n 0, 1) := by decide +kernel
theorem dX8_plan_8 : decode cX8_plan 8 = .ok (.iconst 1, 1) := by decide +kernel
theorem dX8_plan_9 : decode cX8_plan 9 = .ok (.invokevirtual 81, 3) := by decide +kernel
theorem dX8_plan_12 : decode cX8_plan 12 = .ok (.ireturn, 1) := by decide +kernel
theorem dX8_plan_13 : decode cX8_plan 13 = .ok (.iload_n 1, 1) := by decide +kernel
theorem dX8_plan_14 : decode cX8_plan 14 = .ok (.invokestatic 111, 3) := by decide +kernel
theorem dX8_plan_17 : decode cX8_plan 17 = .ok (.ifCond .eq 14, 3) := by decide +kernel
theorem dX8_plan_20 : decode cX8_plan 20 = .ok (.iload_n 2, 1) := by decide +kernel
theorem dX8_plan_21 : decode cX8_plan 21 = .ok (.ifCond .lt 10, 3) := by decide +kernel
theorem dX8_plan_24 : decode cX8_plan 24 = .ok (.iload_n 2, 1) := by decide +kernel
theorem dX8_plan_25 : decode cX8_plan 25 = .ok (.sipush 999, 3) := by decide +kernel
theorem dX8_plan_28 : decode cX8_plan 28 = .ok (.if_icmp .le 9, 3) := by decide +kernel
theorem dX8_plan_31 : decode cX8_plan 31 = .ok (.aload_n 0, 1) := by decide +kernel
theorem dX8_plan_32 : decode cX8_plan 32 = .ok (.iconst 2, 1) := by decide +kernel
theorem dX8_plan_33 : decode cX8_plan 33 = .ok (.invokevirtual 81, 3) := by decide +kernel
theorem dX8_plan_36 : decode cX8_plan 36 = .ok (.ireturn, 1) := by decide +kernel
theorem dX8_plan_37 : decode cX8_plan 37 = .ok (.aload_n 0, 1) := by decide +kernel
theorem dX8_plan_38 : decode cX8_plan 38 = .ok (.getfield 28, 3) := by decide +kernel
theorem dX8_plan_41 : decode cX8_plan 41 = .ok (.getfield 115, 3) := by decide +kernel
theorem dX8_plan_44 : decode cX8_plan 44 = .ok (.astore_n 3, 1) := by decide +kernel
theorem dX8_plan_45 : decode cX8_plan 45 = .ok (.aload_n 3, 1) := by decide +kernel
theorem dX8_plan_46 : decode cX8_plan 46 = .ok (.getfield 119, 3) := by decide +kernel
theorem dX8_plan_49 : decode cX8_plan 49 = .ok (.bipush 16, 2) := by decide +kernel
theorem dX8_plan_51 : decode cX8_plan 51 = .ok (.if_icmp .lt 9, 3) := by decide +kernel
theorem dX8_plan_54 : decode cX8_plan 54 = .ok (.aload_n 0, 1) := by decide +kernel
theorem dX8_plan_55 : decode cX8_plan 55 = .ok (.iconst 3, 1) := by decide +kernel
theorem dX8_plan_56 : decode cX8_plan 56 = .ok (.invokevirtual 81, 3) := by decide +kernel
theorem dX8_plan_59 : decode cX8_plan 59 = .ok (.ireturn, 1) := by decide +kernel
theorem dX8_plan_60 : decode cX8_plan 60 = .ok (.aload_n 3, 1) := by decide +kernel
theorem dX8_plan_61 : decode cX8_plan 61 = .ok (.iload_n 1, 1) := by decide +kernel
theorem dX8_plan_62 : decode cX8_plan 62 = .ok (.iload_n 2, 1) := by decide +kernel
theorem dX8_plan_63 : decode cX8_plan 63 = .ok (.invokevirtual 124, 3) := by decide +kernel
theorem dX8_plan_66 : decode cX8_plan 66 = .ok (.aload_n 3, 1) := by decide +kernel
theorem dX8_plan_67 : decode cX8_plan 67 = .ok (.dup, 1) := by decide +kernel
theorem dX8_plan_68 : decode cX8_plan 68 = .ok (.getfield 128, 3) := by decide +kernel
theorem dX8_plan_71 : decode cX8_plan 71 = .ok (.iconst 1, 1) := by decide +kernel
theorem dX8_plan_72 : decode cX8_plan 72 = .ok (.iadd, 1) := by decide +kernel
theorem dX8_plan_73 : decode cX8_plan 73 = .ok (.putfield 128, 3) := by decide +kernel
theorem dX8_plan_76 : decode cX8_plan 76 = .ok (.aload_n 0, 1) := by decide +kernel
theorem dX8_plan_77 : decode cX8_plan 77 = .ok (.invokevirtual 92, 3) := by decide +kernel
theorem dX8_plan_80 : decode cX8_plan 80 = .ok (.aload_n 0, 1) := by decide +kernel
theorem dX8_plan_81 : decode cX8_plan 81 = .ok (.aload_n 3, 1) := by decide +kernel
theorem dX8_plan_82 : decode cX8_plan 82 = .ok (.getfield 119, 3) := by decide +kernel
theorem dX8_plan_85 : decode cX8_plan 85 = .ok (.invokevirtual 98, 3) := by decide +kernel
theorem dX8_plan_88 : decode cX8_plan 88 = .ok (.ireturn, 1) := by decide +kernel
theorem dX8_undo_0 : decode cX8_undo 0 = .ok (.aload_n 0, 1) := by decide +kernel
theorem dX8_undo_1 : decode cX8_undo 1 = .ok (.getfield 28, 3) := by decide +kernel
theorem dX8_undo_4 : decode cX8_undo 4 = .ok (.getfield 115, 3) := by decide +kernel
theorem dX8_undo_7 : decode cX8_undo 7 = .ok (.astore_n 1, 1) := by decide +kernel
theorem dX8_undo_8 : decode cX8_undo 8 = .ok (.aload_n 1, 1) := by decide +kernel
theorem dX8_undo_9 : decode cX8_undo 9 = .ok (.getfield 128, 3) := by decide +kernel
theorem dX8_undo_12 : decode cX8_undo 12 = .ok (.ifCond .gt 11, 3) := by decide +kernel
theorem dX8_undo_15 : decode cX8_undo 15 = .ok (.aload_n 0, 1) := by decide +kernel
theorem dX8_undo_16 : decode cX8_undo 16 = .ok (.bipush 6, 2) := by decide +kernel
theorem dX8_undo_18 : decode cX8_undo 18 = .ok (.putfield 70, 3) := by decide +kernel
theorem dX8_undo_21 : decode cX8_undo 21 = .ok (.iconst 0, 1) := by decide +kernel
theorem dX8_undo_22 : decode cX8_undo 22 = .ok (.ireturn, 1) := by decide +kernel
theorem dX8_undo_23 : decode cX8_undo 23 = .ok (.aload_n 1, 1) := by decide +kernel
theorem dX8_undo_24 : decode cX8_undo 24 = .ok (.dup, 1) := by decide +kernel
theorem dX8_undo_25 : decode cX8_undo 25 = .ok (.getfield 128, 3) := by decide +kernel
theorem dX8_undo_28 : decode cX8_undo 28 = .ok (.iconst 1, 1) := by decide +kernel
theorem dX8_undo_29 : decode cX8_undo 29 = .ok (.isub, 1) := by decide +kernel
theorem dX8_undo_30 : decode cX8_undo 30 = .ok (.putfield 128, 3) := by decide +kernel
theorem dX8_undo_33 : decode cX8_undo 33 = .ok (.aload_n 1, 1) := by decide +kernel
theorem dX8_undo_34 : decode cX8_undo 34 = .ok (.dup, 1) := by decide +kernel
theorem dX8_undo_35 : decode cX8_undo 35 = .ok (.getfield 119, 3) := by decide +kernel
theorem dX8_undo_38 : decode cX8_undo 38 = .ok (.iconst 1, 1) := by decide +kernel
theorem dX8_undo_39 : decode cX8_undo 39 = .ok (.isub, 1) := by decide +kernel
theorem dX8_undo_40 : decode cX8_undo 40 = .ok (.putfield 119, 3) := by decide +kernel
theorem dX8_undo_43 : decode cX8_undo 43 = .ok (.aload_n 0, 1) := by decide +kernel
theorem dX8_undo_44 : decode cX8_undo 44 = .ok (.invokevirtual 92, 3) := by decide +kernel
theorem dX8_undo_47 : decode cX8_undo 47 = .ok (.aload_n 0, 1) := by decide +kernel
theorem dX8_undo_48 : decode cX8_undo 48 = .ok (.iconst 0, 1) := by decide +kernel
theorem dX8_undo_49 : decode cX8_undo 49 = .ok (.putfield 70, 3) := by decide +kernel
theorem dX8_undo_52 : decode cX8_undo 52 = .ok (.iconst 1, 1) := by decide +kernel
theorem dX8_undo_53 : decode cX8_undo 53 = .ok (.ireturn, 1) := by decide +kernel
theorem dX8_peg_0 : decode cX8_peg 0 = .ok (.aload_n 0, 1) := by decide +kernel
theorem dX8_peg_1 : decode cX8_peg 1 = .ok (.iload_n 1, 1) := by decide +kernel
theorem dX8_peg_2 : decode cX8_peg 2 = .ok (.iload_n 2, 1) := by decide +kernel
theorem dX8_peg_3 : decode cX8_peg 3 = .ok (.iload_n 3, 1) := by decide +kernel
theorem dX8_peg_4 : decode cX8_peg 4 = .ok (.invokevirtual 131, 3) := by decide +kernel
theorem dX8_peg_7 : decode cX8_peg 7 = .ok (.ifCond .ne 9, 3) := by decide +kernel
theorem dX8_peg_10 : decode cX8_peg 10 = .ok (.aload_n 0, 1) := by decide +kernel
theorem dX8_peg_11 : decode cX8_peg 11 = .ok (.iconst 1, 1) := by decide +kernel
theorem dX8_peg_12 : decode cX8_peg 12 = .ok (.invokevirtual 81, 3) := by decide +kernel
theorem dX8_peg_15 : decode cX8_peg 15 = .ok (.ireturn, 1) := by decide +kernel
theorem dX8_peg_16 : decode cX8_peg 16 = .ok (.aload_n 0, 1) := by decide +kernel
theorem dX8_peg_17 : decode cX8_peg 17 = .ok (.iload_n 1, 1) := by decide +kernel
theorem dX8_peg_18 : decode cX8_peg 18 = .ok (.invokevirtual 135, 3) := by decide +kernel
theorem dX8_peg_21 : decode cX8_peg 21 = .ok (.astore 5, 2) := by decide +kernel
theorem dX8_peg_23 : decode cX8_peg 23 = .ok (.iload 4, 2) := by decide +kernel
theorem dX8_peg_25 : decode cX8_peg 25 = .ok (.tableswitch 75 0 2 #[27, 43, 59], 27) := by decide +kernel
theorem dX8_peg_52 : decode cX8_peg 52 = .ok (.aload_n 0, 1) := by decide +kernel
theorem dX8_peg_53 : decode cX8_peg 53 = .ok (.aload 5, 2) := by decide +kernel
theorem dX8_peg_55 : decode cX8_peg 55 = .ok (.getfield 139, 3) := by decide +kernel
theorem dX8_peg_58 : decode cX8_peg 58 = .ok (.iload_n 2, 1) := by decide +kernel
theorem dX8_peg_59 : decode cX8_peg 59 = .ok (.iload_n 3, 1) := by decide +kernel
theorem dX8_peg_60 : decode cX8_peg 60 = .ok (.invokestatic 142, 3) := by decide +kernel
theorem dX8_peg_63 : decode cX8_peg 63 = .ok (.iaload, 1) := by decide +kernel
theorem dX8_peg_64 : decode cX8_peg 64 = .ok (.invokevirtual 98, 3) := by decide +kernel
theorem dX8_peg_67 : decode cX8_peg 67 = .ok (.ireturn, 1) := by decide +kernel
theorem dX8_peg_68 : decode cX8_peg 68 = .ok (.aload_n 0, 1) := by decide +kernel
theorem dX8_peg_69 : decode cX8_peg 69 = .ok (.aload 5, 2) := by decide +kernel
theorem dX8_peg_71 : decode cX8_peg 71 = .ok (.getfield 146, 3) := by decide +kernel
theorem dX8_peg_74 : decode cX8_peg 74 = .ok (.iload_n 2, 1) := by decide +kernel
theorem dX8_peg_75 : decode cX8_peg 75 = .ok (.iload_n 3, 1) := by decide +kernel
theorem dX8_peg_76 : decode cX8_peg 76 = .ok (.invokestatic 142, 3) := by decide +kernel
theorem dX8_peg_79 : decode cX8_peg 79 = .ok (.iaload, 1) := by decide +kernel
theorem dX8_peg_80 : decode cX8_peg 80 = .ok (.invokevirtual 98, 3) := by decide +kernel
theorem dX8_peg_83 : decode cX8_peg 83 = .ok (.ireturn, 1) := by decide +kernel
theorem dX8_peg_84 : decode cX8_peg 84 = .ok (.aload_n 0, 1) := by decide +kernel
theorem dX8_peg_85 : decode cX8_peg 85 = .ok (.aload 5, 2) := by decide +kernel
theorem dX8_peg_87 : decode cX8_peg 87 = .ok (.getfield 149, 3) := by decide +kernel
theorem dX8_peg_90 : decode cX8_peg 90 = .ok (.iload_n 2, 1) := by decide +kernel
theorem dX8_peg_91 : decode cX8_peg 91 = .ok (.iload_n 3, 1) := by decide +kernel
theorem dX8_peg_92 : decode cX8_peg 92 = .ok (.invokestatic 142, 3) := by decide +kernel
theorem dX8_peg_95 : decode cX8_peg 95 = .ok (.iaload, 1) := by decide +kernel
theorem dX8_peg_96 : decode cX8_peg 96 = .ok (.invokevirtual 98, 3) := by decide +kernel
theorem dX8_peg_99 : decode cX8_peg 99 = .ok (.ireturn, 1) := by decide +kernel
theorem dX8_peg_100 : decode cX8_peg 100 = .ok (.aload_n 0, 1) := by decide +kernel
theorem dX8_peg_101 : decode cX8_peg 101 = .ok (.iconst 1, 1) := by decide +kernel
theorem dX8_peg_102 : decode cX8_peg 102 = .ok (.invokevirtual 81, 3) := by decide +kernel
theorem dX8_peg_105 : decode cX8_peg 105 = .ok (.ireturn, 1) := by decide +kernel
theorem dX8_gone_0 : decode cX8_gone 0 = .ok (.aload_n 0, 1) := by decide +kernel
theorem dX8_gone_1 : decode cX8_gone 1 = .ok (.iload_n 1, 1) := by decide +kernel
theorem dX8_gone_2 : decode cX8_gone 2 = .ok (.invokevirtual 152, 3) := by decide +kernel
theorem dX8_gone_5 : decode cX8_gone 5 = .ok (.ifCond .ne 9, 3) := by decide +kernel
theorem dX8_gone_8 : decode cX8_gone 8 = .ok (.aload_n 0, 1) := by decide +kernel
theorem dX8_gone_9 : decode cX8_gone 9 = .ok (.iconst 1, 1) := by decide +kernel
theorem dX8_gone_10 : decode cX8_gone 10 = .ok (.invokevirtual 81, 3) := by decide +kernel
theorem dX8_gone_13 : decode cX8_gone 13 = .ok (.ireturn, 1) := by decide +kernel
theorem dX8_gone_14 : decode cX8_gone 14 = .ok (.aload_n 0, 1) := by decide +kernel
theorem dX8_gone_15 : decode cX8_gone 15 = .ok (.aload_n 0, 1) := by decide +kernel
theorem dX8_gone_16 : decode cX8_gone 16 = .ok (.iload_n 1, 1) := by decide +kernel
theorem dX8_gone_17 : decode cX8_gone 17 = .ok (.invokevirtual 135, 3) := by decide +kernel
theorem dX8_gone_20 : decode cX8_gone 20 = .ok (.getfield 155, 3) := by decide +kernel
theorem dX8_gone_23 : decode cX8_gone 23 = .ok (.invokevirtual 98, 3) := by decide +kernel
theorem dX8_gone_26 : decode cX8_gone 26 = .ok (.ireturn, 1) := by decide +kernel
theorem dX8_wave_0 : decode cX8_wave 0 = .ok (.aload_n 0, 1) := by decide +kernel
theorem dX8_wave_1 : decode cX8_wave 1 = .ok (.iload_n 1, 1) := by decide +kernel
theorem dX8_wave_2 : decode cX8_wave 2 = .ok (.invokevirtual 152, 3) := by decide +kernel
theorem dX8_wave_5 : decode cX8_wave 5 = .ok (.ifCond .ne 9, 3) := by decide +kernel
theorem dX8_wave_8 : decode cX8_wave 8 = .ok (.aload_n 0, 1) := by decide +kernel
theorem dX8_wave_9 : decode cX8_wave 9 = .ok (.iconst 1, 1) := by decide +kernel
theorem dX8_wave_10 : decode cX8_wave 10 = .ok (.invokevirtual 81, 3) := by decide +kernel
theorem dX8_wave_13 : decode cX8_wave 13 = .ok (.ireturn, 1) := by decide +kernel
theorem dX8_wave_14 : decode cX8_wave 14 = .ok (.aload_n 0, 1) := by decide +kernel
theorem dX8_wave_15 : decode cX8_wave 15 = .ok (.aload_n 0, 1) := by decide +kernel
theorem dX8_wave_16 : decode cX8_wave 16 = .ok (.iload_n 1, 1) := by decide +kernel
theorem dX8_wave_17 : decode cX8_wave 17 = .ok (.invokevirtual 135, 3) := by decide +kernel
theorem dX8_wave_20 : decode cX8_wave 20 = .ok (.getfield 158, 3) := by decide +kernel
theorem dX8_wave_23 : decode cX8_wave 23 = .ok (.invokevirtual 98, 3) := by decide +kernel
theorem dX8_wave_26 : decode cX8_wave 26 = .ok (.ireturn, 1) := by decide +kernel
theorem dX8_read_0 : decode cX8_read 0 = .ok (.aload_n 0, 1) := by decide +kernel
theorem dX8_read_1 : decode cX8_read 1 = .ok (.iload_n 1, 1) := by decide +kernel
theorem dX8_read_2 : decode cX8_read 2 = .ok (.invokevirtual 161, 3) := by decide +kernel
theorem dX8_read_5 : decode cX8_read 5 = .ok (.ifCond .eq 10, 3) := by decide +kernel
theorem dX8_read_8 : decode cX8_read 8 = .ok (.iload_n 2, 1) := by decide +kernel
theorem dX8_read_9 : decode cX8_read 9 = .ok (.invokestatic 111, 3) := by decide +kernel
theorem dX8_read_12 : decode cX8_read 12 = .ok (.ifCond .ne 9, 3) := by decide +kernel
theorem dX8_read_15 : decode cX8_read 15 = .ok (.aload_n 0, 1) := by decide +kernel
theorem dX8_read_16 : decode cX8_read 16 = .ok (.iconst 1, 1) := by decide +kernel
theorem dX8_read_17 : decode cX8_read 17 = .ok (.invokevirtual 81, 3) := by decide +kernel
theorem dX8_read_20 : decode cX8_read 20 = .ok (.ireturn, 1) := by decide +kernel
theorem dX8_read_21 : decode cX8_read 21 = .ok (.iload_n 3, 1) := by decide +kernel
theorem dX8_read_22 : decode cX8_read 22 = .ok (.ifCond .lt 22, 3) := by decide +kernel
theorem dX8_read_25 : decode cX8_read 25 = .ok (.iload_n 3, 1) := by decide +kernel
theorem dX8_read_26 : decode cX8_read 26 = .ok (.ldc 164, 2) := by decide +kernel
theorem dX8_read_28 : decode cX8_read 28 = .ok (.if_icmp .gt 16, 3) := by decide +kernel
theorem dX8_read_31 : decode cX8_read 31 = .ok (.iload 4, 2) := by decide +kernel
theorem dX8_read_33 : decode cX8_read 33 = .ok (.ifCond .lt 11, 3) := by decide +kernel
theorem dX8_read_36 : decode cX8_read 36 = .ok (.iload 4, 2) := by decide +kernel
theorem dX8_read_38 : decode cX8_read 38 = .ok (.sipush 999, 3) := by decide +kernel
theorem dX8_read_41 : decode cX8_read 41 = .ok (.if_icmp .le 9, 3) := by decide +kernel
theorem dX8_read_44 : decode cX8_read 44 = .ok (.aload_n 0, 1) := by decide +kernel
theorem dX8_read_45 : decode cX8_read 45 = .ok (.iconst 2, 1) := by decide +kernel
theorem dX8_read_46 : decode cX8_read 46 = .ok (.invokevirtual 81, 3) := by decide +kernel
theorem dX8_read_49 : decode cX8_read 49 = .ok (.ireturn, 1) := by decide +kernel
theorem dX8_read_50 : decode cX8_read 50 = .ok (.aload_n 0, 1) := by decide +kernel
theorem dX8_read_51 : decode cX8_read 51 = .ok (.getfield 60, 3) := by decide +kernel
theorem dX8_read_54 : decode cX8_read 54 = .ok (.getfield 89, 3) := by decide +kernel
theorem dX8_read_57 : decode cX8_read 57 = .ok (.bipush 24, 2) := by decide +kernel
theorem dX8_read_59 : decode cX8_read 59 = .ok (.if_icmp .lt 9, 3) := by decide +kernel
theorem dX8_read_62 : decode cX8_read 62 = .ok (.aload_n 0, 1) := by decide +kernel
theorem dX8_read_63 : decode cX8_read 63 = .ok (.iconst 3, 1) := by decide +kernel
theorem dX8_read_64 : decode cX8_read 64 = .ok (.invokevirtual 81, 3) := by decide +kernel
theorem dX8_read_67 : decode cX8_read 67 = .ok (.ireturn, 1) := by decide +kernel
theorem dX8_read_68 : decode cX8_read 68 = .ok (.aload_n 0, 1) := by decide +kernel
theorem dX8_read_69 : decode cX8_read 69 = .ok (.getfield 60, 3) := by decide +kernel
theorem dX8_read_72 : decode cX8_read 72 = .ok (.iload_n 1, 1) := by decide +kernel
theorem dX8_read_73 : decode cX8_read 73 = .ok (.iload_n 2, 1) := by decide +kernel
theorem dX8_read_74 : decode cX8_read 74 = .ok (.iload_n 3, 1) := by decide +kernel
theorem dX8_read_75 : decode cX8_read 75 = .ok (.iload 4, 2) := by decide +kernel
theorem dX8_read_77 : decode cX8_read 77 = .ok (.invokevirtual 165, 3) := by decide +kernel
theorem dX8_read_80 : decode cX8_read 80 = .ok (.aload_n 0, 1) := by decide +kernel
theorem dX8_read_81 : decode cX8_read 81 = .ok (.aload_n 0, 1) := by decide +kernel
theorem dX8_read_82 : decode cX8_read 82 = .ok (.getfield 60, 3) := by decide +kernel
theorem dX8_read_85 : decode cX8_read 85 = .ok (.getfield 89, 3) := by decide +kernel
theorem dX8_read_88 : decode cX8_read 88 = .ok (.invokevirtual 98, 3) := by decide +kernel
theorem dX8_read_91 : decode cX8_read 91 = .ok (.ireturn, 1) := by decide +kernel
theorem dX8_forget_0 : decode cX8_forget 0 = .ok (.aload_n 0, 1) := by decide +kernel
theorem dX8_forget_1 : decode cX8_forget 1 = .ok (.getfield 60, 3) := by decide +kernel
theorem dX8_forget_4 : decode cX8_forget 4 = .ok (.getfield 89, 3) := by decide +kernel
theorem dX8_forget_7 : decode cX8_forget 7 = .ok (.istore_n 1, 1) := by decide +kernel
theorem dX8_forget_8 : decode cX8_forget 8 = .ok (.aload_n 0, 1) := by decide +kernel
theorem dX8_forget_9 : decode cX8_forget 9 = .ok (.getfield 60, 3) := by decide +kernel
theorem dX8_forget_12 : decode cX8_forget 12 = .ok (.iconst 0, 1) := by decide +kernel
theorem dX8_forget_13 : decode cX8_forget 13 = .ok (.putfield 89, 3) := by decide +kernel
theorem dX8_forget_16 : decode cX8_forget 16 = .ok (.iload_n 1, 1) := by decide +kernel
theorem dX8_forget_17 : decode cX8_forget 17 = .ok (.ireturn, 1) := by decide +kernel
theorem dX8_fits_0 : decode cX8_fits 0 = .ok (.aload_n 0, 1) := by decide +kernel
theorem dX8_fits_1 : decode cX8_fits 1 = .ok (.invokevirtual 107, 3) := by decide +kernel
theorem dX8_fits_4 : decode cX8_fits 4 = .ok (.ifCond .eq 9, 3) := by decide +kernel
theorem dX8_fits_7 : decode cX8_fits 7 = .ok (.aload_n 0, 1) := by decide +kernel
theorem dX8_fits_8 : decode cX8_fits 8 = .ok (.iconst 1, 1) := by decide +kernel
theorem dX8_fits_9 : decode cX8_fits 9 = .ok (.invokevirtual 81, 3) := by decide +kernel
theorem dX8_fits_12 : decode cX8_fits 12 = .ok (.ireturn, 1) := by decide +kernel
theorem dX8_fits_13 : decode cX8_fits 13 = .ok (.aload_n 0, 1) := by decide +kernel
theorem dX8_fits_14 : decode cX8_fits 14 = .ok (.invokevirtual 168, 3) := by decide +kernel
theorem dX8_fits_17 : decode cX8_fits 17 = .ok (.aload_n 0, 1) := by decide +kernel
theorem dX8_fits_18 : decode cX8_fits 18 = .ok (.aload_n 0, 1) := by decide +kernel
theorem dX8_fits_19 : decode cX8_fits 19 = .ok (.bipush 59, 2) := by decide +kernel
theorem dX8_fits_21 : decode cX8_fits 21 = .ok (.invokevirtual 171, 3) := by decide +kernel
theorem dX8_fits_24 : decode cX8_fits 24 = .ok (.invokevirtual 98, 3) := by decide +kernel
theorem dX8_fits_27 : decode cX8_fits 27 = .ok (.ireturn, 1) := by decide +kernel
theorem dX8_fit_0 : decode cX8_fit 0 = .ok (.aload_n 0, 1) := by decide +kernel
theorem dX8_fit_1 : decode cX8_fit 1 = .ok (.invokevirtual 168, 3) := by decide +kernel
theorem dX8_fit_4 : decode cX8_fit 4 = .ok (.iconst 0, 1) := by decide +kernel
theorem dX8_fit_5 : decode cX8_fit 5 = .ok (.istore_n 2, 1) := by decide +kernel
theorem dX8_fit_6 : decode cX8_fit 6 = .ok (.iconst 0, 1) := by decide +kernel
theorem dX8_fit_7 : decode cX8_fit 7 = .ok (.istore_n 3, 1) := by decide +kernel
theorem dX8_fit_8 : decode cX8_fit 8 = .ok (.iload_n 3, 1) := by decide +kernel
theorem dX8_fit_9 : decode cX8_fit 9 = .ok (.aload_n 0, 1) := by decide +kernel
theorem dX8_fit_10 : decode cX8_fit 10 = .ok (.getfield 28, 3) := by decide +kernel
theorem dX8_fit_13 : decode cX8_fit 13 = .ok (.getfield 95, 3) := by decide +kernel
theorem dX8_fit_16 : decode cX8_fit 16 = .ok (.if_icmp .ge 31, 3) := by decide +kernel
theorem dX8_fit_19 : decode cX8_fit 19 = .ok (.aload_n 0, 1) := by decide +kernel
theorem dX8_fit_20 : decode cX8_fit 20 = .ok (.iload_n 3, 1) := by decide +kernel
theorem dX8_fit_21 : decode cX8_fit 21 = .ok (.invokevirtual 174, 3) := by decide +kernel
theorem dX8_fit_24 : decode cX8_fit 24 = .ok (.ifCond .eq 17, 3) := by decide +kernel
theorem dX8_fit_27 : decode cX8_fit 27 = .ok (.iload_n 2, 1) := by decide +kernel
theorem dX8_fit_28 : decode cX8_fit 28 = .ok (.iload_n 1, 1) := by decide +kernel
theorem dX8_fit_29 : decode cX8_fit 29 = .ok (.if_icmp .ne 9, 3) := by decide +kernel
theorem dX8_fit_32 : decode cX8_fit 32 = .ok (.aload_n 0, 1) := by decide +kernel
theorem dX8_fit_33 : decode cX8_fit 33 = .ok (.iload_n 3, 1) := by decide +kernel
theorem dX8_fit_34 : decode cX8_fit 34 = .ok (.invokevirtual 98, 3) := by decide +kernel
theorem dX8_fit_37 : decode cX8_fit 37 = .ok (.ireturn, 1) := by decide +kernel
theorem dX8_fit_38 : decode cX8_fit 38 = .ok (.iinc 2 1, 3) := by decide +kernel
theorem dX8_fit_41 : decode cX8_fit 41 = .ok (.iinc 3 1, 3) := by decide +kernel
theorem dX8_fit_44 : decode cX8_fit 44 = .ok (.goto (-36), 3) := by decide +kernel
theorem dX8_fit_47 : decode cX8_fit 47 = .ok (.aload_n 0, 1) := by decide +kernel
theorem dX8_fit_48 : decode cX8_fit 48 = .ok (.iconst 1, 1) := by decide +kernel
theorem dX8_fit_49 : decode cX8_fit 49 = .ok (.invokevirtual 81, 3) := by decide +kernel
theorem dX8_fit_52 : decode cX8_fit 52 = .ok (.ireturn, 1) := by decide +kernel
theorem dX8_weight_0 : decode cX8_weight 0 = .ok (.iload_n 1, 1) := by decide +kernel
theorem dX8_weight_1 : decode cX8_weight 1 = .ok (.iconst (-1), 1) := by decide +kernel
theorem dX8_weight_2 : decode cX8_weight 2 = .ok (.if_icmp .eq 17, 3) := by decide +kernel
theorem dX8_weight_5 : decode cX8_weight 5 = .ok (.aload_n 0, 1) := by decide +kernel
theorem dX8_weight_6 : decode cX8_weight 6 = .ok (.iload_n 1, 1) := by decide +kernel
theorem dX8_weight_7 : decode cX8_weight 7 = .ok (.invokevirtual 152, 3) := by decide +kernel
theorem dX8_weight_10 : decode cX8_weight 10 = .ok (.ifCond .ne 9, 3) := by decide +kernel
theorem dX8_weight_13 : decode cX8_weight 13 = .ok (.aload_n 0, 1) := by decide +kernel
theorem dX8_weight_14 : decode cX8_weight 14 = .ok (.iconst 1, 1) := by decide +kernel
theorem dX8_weight_15 : decode cX8_weight 15 = .ok (.invokevirtual 81, 3) := by decide +kernel
theorem dX8_weight_18 : decode cX8_weight 18 = .ok (.ireturn, 1) := by decide +kernel
theorem dX8_weight_19 : decode cX8_weight 19 = .ok (.aload_n 0, 1) := by decide +kernel
theorem dX8_weight_20 : decode cX8_weight 20 = .ok (.invokevirtual 168, 3) := by decide +kernel
theorem dX8_weight_23 : decode cX8_weight 23 = .ok (.iload_n 1, 1) := by decide +kernel
theorem dX8_weight_24 : decode cX8_weight 24 = .ok (.iconst (-1), 1) := by decide +kernel
theorem dX8_weight_25 : decode cX8_weight 25 = .ok (.if_icmp .ne 12, 3) := by decide +kernel
theorem dX8_weight_28 : decode cX8_weight 28 = .ok (.aload_n 0, 1) := by decide +kernel
theorem dX8_weight_29 : decode cX8_weight 29 = .ok (.aload_n 0, 1) := by decide +kernel
theorem dX8_weight_30 : decode cX8_weight 30 = .ok (.invokevirtual 177, 3) := by decide +kernel
theorem dX8_weight_33 : decode cX8_weight 33 = .ok (.invokevirtual 98, 3) := by decide +kernel
theorem dX8_weight_36 : decode cX8_weight 36 = .ok (.ireturn, 1) := by decide +kernel
theorem dX8_weight_37 : decode cX8_weight 37 = .ok (.aload_n 0, 1) := by decide +kernel
theorem dX8_weight_38 : decode cX8_weight 38 = .ok (.aload_n 0, 1) := by decide +kernel
theorem dX8_weight_39 : decode cX8_weight 39 = .ok (.iload_n 1, 1) := by decide +kernel
theorem dX8_weight_40 : decode cX8_weight 40 = .ok (.invokevirtual 174, 3) := by decide +kernel
theorem dX8_weight_43 : decode cX8_weight 43 = .ok (.ifCond .eq 18, 3) := by decide +kernel
theorem dX8_weight_46 : decode cX8_weight 46 = .ok (.aload_n 0, 1) := by decide +kernel
theorem dX8_weight_47 : decode cX8_weight 47 = .ok (.getfield 28, 3) := by decide +kernel
theorem dX8_weight_50 : decode cX8_weight 50 = .ok (.getfield 181, 3) := by decide +kernel
theorem dX8_weight_53 : decode cX8_weight 53 = .ok (.iload_n 1, 1) := by decide +kernel
theorem dX8_weight_54 : decode cX8_weight 54 = .ok (.aaload, 1) := by decide +kernel
theorem dX8_weight_55 : decode cX8_weight 55 = .ok (.getfield 185, 3) := by decide +kernel
theorem dX8_weight_58 : decode cX8_weight 58 = .ok (.goto 4, 3) := by decide +kernel
theorem dX8_weight_61 : decode cX8_weight 61 = .ok (.iconst 0, 1) := by decide +kernel
theorem dX8_weight_62 : decode cX8_weight 62 = .ok (.invokevirtual 98, 3) := by decide +kernel
theorem dX8_weight_65 : decode cX8_weight 65 = .ok (.ireturn, 1) := by decide +kernel
theorem dX8_clear_0 : decode cX8_clear 0 = .ok (.aload_n 0, 1) := by decide +kernel
theorem dX8_clear_1 : decode cX8_clear 1 = .ok (.invokevirtual 107, 3) := by decide +kernel
theorem dX8_clear_4 : decode cX8_clear 4 = .ok (.ifCond .eq 9, 3) := by decide +kernel
theorem dX8_clear_7 : decode cX8_clear 7 = .ok (.aload_n 0, 1) := by decide +kernel
theorem dX8_clear_8 : decode cX8_clear 8 = .ok (.iconst 1, 1) := by decide +kernel
theorem dX8_clear_9 : decode cX8_clear 9 = .ok (.invokevirtual 81, 3) := by decide +kernel
theorem dX8_clear_12 : decode cX8_clear 12 = .ok (.ireturn, 1) := by decide +kernel
theorem dX8_clear_13 : decode cX8_clear 13 = .ok (.aload_n 0, 1) := by decide +kernel
theorem dX8_clear_14 : decode cX8_clear 14 = .ok (.invokevirtual 168, 3) := by decide +kernel
theorem dX8_clear_17 : decode cX8_clear 17 = .ok (.iconst 0, 1) := by decide +kernel
theorem dX8_clear_18 : decode cX8_clear 18 = .ok (.istore_n 1, 1) := by decide +kernel
theorem dX8_clear_19 : decode cX8_clear 19 = .ok (.iload_n 1, 1) := by decide +kernel
theorem dX8_clear_20 : decode cX8_clear 20 = .ok (.bipush 60, 2) := by decide +kernel
theorem dX8_clear_22 : decode cX8_clear 22 = .ok (.if_icmp .ge 24, 3) := by decide +kernel
theorem dX8_clear_25 : decode cX8_clear 25 = .ok (.aload_n 0, 1) := by decide +kernel
theorem dX8_clear_26 : decode cX8_clear 26 = .ok (.iload_n 1, 1) := by decide +kernel
theorem dX8_clear_27 : decode cX8_clear 27 = .ok (.invokevirtual 171, 3) := by decide +kernel
theorem dX8_clear_30 : decode cX8_clear 30 = .ok (.iconst 1, 1) := by decide +kernel
theorem dX8_clear_31 : decode cX8_clear 31 = .ok (.if_icmp .ne 9, 3) := by decide +kernel
theorem dX8_clear_34 : decode cX8_clear 34 = .ok (.aload_n 0, 1) := by decide +kernel
theorem dX8_clear_35 : decode cX8_clear 35 = .ok (.iload_n 1, 1) := by decide +kernel
theorem dX8_clear_36 : decode cX8_clear 36 = .ok (.invokevirtual 98, 3) := by decide +kernel
theorem dX8_clear_39 : decode cX8_clear 39 = .ok (.ireturn, 1) := by decide +kernel
theorem dX8_clear_40 : decode cX8_clear 40 = .ok (.iinc 1 1, 3) := by decide +kernel
theorem dX8_clear_43 : decode cX8_clear 43 = .ok (.goto (-24), 3) := by decide +kernel
theorem dX8_clear_46 : decode cX8_clear 46 = .ok (.aload_n 0, 1) := by decide +kernel
theorem dX8_clear_47 : decode cX8_clear 47 = .ok (.bipush (-2), 2) := by decide +kernel
theorem dX8_clear_49 : decode cX8_clear 49 = .ok (.invokevirtual 98, 3) := by decide +kernel
theorem dX8_clear_52 : decode cX8_clear 52 = .ok (.ireturn, 1) := by decide +kernel
theorem dX8_lettings_0 : decode cX8_lettings 0 = .ok (.aload_n 0, 1) := by decide +kernel
theorem dX8_lettings_1 : decode cX8_lettings 1 = .ok (.invokevirtual 107, 3) := by decide +kernel
theorem dX8_lettings_4 : decode cX8_lettings 4 = .ok (.ifCond .eq 9, 3) := by decide +kernel
theorem dX8_lettings_7 : decode cX8_lettings 7 = .ok (.aload_n 0, 1) := by decide +kernel
theorem dX8_lettings_8 : decode cX8_lettings 8 = .ok (.iconst 1, 1) := by decide +kernel
theorem dX8_lettings_9 : decode cX8_lettings 9 = .ok (.invokevirtual 81, 3) := by decide +kernel
theorem dX8_lettings_12 : decode cX8_lettings 12 = .ok (.ireturn, 1) := by decide +kernel
theorem dX8_lettings_13 : decode cX8_lettings 13 = .ok (.aload_n 0, 1) := by decide +kernel
theorem dX8_lettings_14 : decode cX8_lettings 14 = .ok (.aload_n 0, 1) := by decide +kernel
theorem dX8_lettings_15 : decode cX8_lettings 15 = .ok (.invokevirtual 190, 3) := by decide +kernel
theorem dX8_lettings_18 : decode cX8_lettings 18 = .ok (.invokevirtual 98, 3) := by decide +kernel
theorem dX8_lettings_21 : decode cX8_lettings 21 = .ok (.ireturn, 1) := by decide +kernel
theorem dX8_tap_0 : decode cX8_tap 0 = .ok (.aload_n 0, 1) := by decide +kernel
theorem dX8_tap_1 : decode cX8_tap 1 = .ok (.iload_n 1, 1) := by decide +kernel
theorem dX8_tap_2 : decode cX8_tap 2 = .ok (.invokevirtual 152, 3) := by decide +kernel
theorem dX8_tap_5 : decode cX8_tap 5 = .ok (.ifCond .ne 9, 3) := by decide +kernel
theorem dX8_tap_8 : decode cX8_tap 8 = .ok (.aload_n 0, 1) := by decide +kernel
theorem dX8_tap_9 : decode cX8_tap 9 = .ok (.iconst 1, 1) := by decide +kernel
theorem dX8_tap_10 : decode cX8_tap 10 = .ok (.invokevirtual 81, 3) := by decide +kernel
theorem dX8_tap_13 : decode cX8_tap 13 = .ok (.ireturn, 1) := by decide +kernel
theorem dX8_tap_14 : decode cX8_tap 14 = .ok (.aload_n 0, 1) := by decide +kernel
theorem dX8_tap_15 : decode cX8_tap 15 = .ok (.aload_n 0, 1) := by decide +kernel
theorem dX8_tap_16 : decode cX8_tap 16 = .ok (.iload_n 1, 1) := by decide +kernel
theorem dX8_tap_17 : decode cX8_tap 17 = .ok (.invokevirtual 193, 3) := by decide +kernel
theorem dX8_tap_20 : decode cX8_tap 20 = .ok (.invokevirtual 98, 3) := by decide +kernel
theorem dX8_tap_23 : decode cX8_tap 23 = .ok (.ireturn, 1) := by decide +kernel
theorem dX8_fooled_0 : decode cX8_fooled 0 = .ok (.aload_n 0, 1) := by decide +kernel
theorem dX8_fooled_1 : decode cX8_fooled 1 = .ok (.invokevirtual 107, 3) := by decide +kernel
theorem dX8_fooled_4 : decode cX8_fooled 4 = .ok (.ifCond .eq 9, 3) := by decide +kernel
theorem dX8_fooled_7 : decode cX8_fooled 7 = .ok (.aload_n 0, 1) := by decide +kernel
theorem dX8_fooled_8 : decode cX8_fooled 8 = .ok (.iconst 1, 1) := by decide +kernel
theorem dX8_fooled_9 : decode cX8_fooled 9 = .ok (.invokevirtual 81, 3) := by decide +kernel
theorem dX8_fooled_12 : decode cX8_fooled 12 = .ok (.ireturn, 1) := by decide +kernel
theorem dX8_fooled_13 : decode cX8_fooled 13 = .ok (.iload_n 1, 1) := by decide +kernel
theorem dX8_fooled_14 : decode cX8_fooled 14 = .ok (.ifCond .ge 9, 3) := by decide +kernel
theorem dX8_fooled_17 : decode cX8_fooled 17 = .ok (.aload_n 0, 1) := by decide +kernel
theorem dX8_fooled_18 : decode cX8_fooled 18 = .ok (.iconst 2, 1) := by decide +kernel
theorem dX8_fooled_19 : decode cX8_fooled 19 = .ok (.invokevirtual 81, 3) := by decide +kernel
theorem dX8_fooled_22 : decode cX8_fooled 22 = .ok (.ireturn, 1) := by decide +kernel
theorem dX8_fooled_23 : decode cX8_fooled 23 = .ok (.aload_n 0, 1) := by decide +kernel
theorem dX8_fooled_24 : decode cX8_fooled 24 = .ok (.invokevirtual 190, 3) := by decide +kernel
theorem dX8_fooled_27 : decode cX8_fooled 27 = .ok (.iload_n 1, 1) := by decide +kernel
theorem dX8_fooled_28 : decode cX8_fooled 28 = .ok (.if_icmp .gt 10, 3) := by decide +kernel
theorem dX8_fooled_31 : decode cX8_fooled 31 = .ok (.aload_n 0, 1) := by decide +kernel
theorem dX8_fooled_32 : decode cX8_fooled 32 = .ok (.bipush (-2), 2) := by decide +kernel
theorem dX8_fooled_34 : decode cX8_fooled 34 = .ok (.invokevirtual 98, 3) := by decide +kernel
theorem dX8_fooled_37 : decode cX8_fooled 37 = .ok (.ireturn, 1) := by decide +kernel
theorem dX8_fooled_38 : decode cX8_fooled 38 = .ok (.iconst 0, 1) := by decide +kernel
theorem dX8_fooled_39 : decode cX8_fooled 39 = .ok (.istore_n 2, 1) := by decide +kernel
theorem dX8_fooled_40 : decode cX8_fooled 40 = .ok (.iload_n 2, 1) := by decide +kernel
theorem dX8_fooled_41 : decode cX8_fooled 41 = .ok (.aload_n 0, 1) := by decide +kernel
theorem dX8_fooled_42 : decode cX8_fooled 42 = .ok (.getfield 28, 3) := by decide +kernel
theorem dX8_fooled_45 : decode cX8_fooled 45 = .ok (.getfield 95, 3) := by decide +kernel
theorem dX8_fooled_48 : decode cX8_fooled 48 = .ok (.if_icmp .ge 24, 3) := by decide +kernel
theorem dX8_fooled_51 : decode cX8_fooled 51 = .ok (.aload_n 0, 1) := by decide +kernel
theorem dX8_fooled_52 : decode cX8_fooled 52 = .ok (.iload_n 2, 1) := by decide +kernel
theorem dX8_fooled_53 : decode cX8_fooled 53 = .ok (.invokevirtual 193, 3) := by decide +kernel
theorem dX8_fooled_56 : decode cX8_fooled 56 = .ok (.iload_n 1, 1) := by decide +kernel
theorem dX8_fooled_57 : decode cX8_fooled 57 = .ok (.if_icmp .ne 9, 3) := by decide +kernel
theorem dX8_fooled_60 : decode cX8_fooled 60 = .ok (.aload_n 0, 1) := by decide +kernel
theorem dX8_fooled_61 : decode cX8_fooled 61 = .ok (.iload_n 2, 1) := by decide +kernel
theorem dX8_fooled_62 : decode cX8_fooled 62 = .ok (.invokevirtual 98, 3) := by decide +kernel
theorem dX8_fooled_65 : decode cX8_fooled 65 = .ok (.ireturn, 1) := by decide +kernel
theorem dX8_fooled_66 : decode cX8_fooled 66 = .ok (.iinc 2 1, 3) := by decide +kernel
theorem dX8_fooled_69 : decode cX8_fooled 69 = .ok (.goto (-29), 3) := by decide +kernel
theorem dX8_fooled_72 : decode cX8_fooled 72 = .ok (.aload_n 0, 1) := by decide +kernel
theorem dX8_fooled_73 : decode cX8_fooled 73 = .ok (.bipush (-2), 2) := by decide +kernel
theorem dX8_fooled_75 : decode cX8_fooled 75 = .ok (.invokevirtual 98, 3) := by decide +kernel
theorem dX8_fooled_78 : decode cX8_fooled 78 = .ok (.ireturn, 1) := by decide +kernel
theorem dX8_nought_0 : decode cX8_nought 0 = .ok (.aload_n 0, 1) := by decide +kernel
theorem dX8_nought_1 : decode cX8_nought 1 = .ok (.iload_n 1, 1) := by decide +kernel
theorem dX8_nought_2 : decode cX8_nought 2 = .ok (.iload_n 2, 1) := by decide +kernel
theorem dX8_nought_3 : decode cX8_nought 3 = .ok (.iload_n 3, 1) := by decide +kernel
theorem dX8_nought_4 : decode cX8_nought 4 = .ok (.invokevirtual 131, 3) := by decide +kernel
theorem dX8_nought_7 : decode cX8_nought 7 = .ok (.ifCond .eq 9, 3) := by decide +kernel
theorem dX8_nought_10 : decode cX8_nought 10 = .ok (.iload_n 3, 1) := by decide +kernel
theorem dX8_nought_11 : decode cX8_nought 11 = .ok (.bipush 59, 2) := by decide +kernel
theorem dX8_nought_13 : decode cX8_nought 13 = .ok (.if_icmp .lt 9, 3) := by decide +kernel
theorem dX8_nought_16 : decode cX8_nought 16 = .ok (.aload_n 0, 1) := by decide +kernel
theorem dX8_nought_17 : decode cX8_nought 17 = .ok (.iconst 1, 1) := by decide +kernel
theorem dX8_nought_18 : decode cX8_nought 18 = .ok (.invokevirtual 81, 3) := by decide +kernel
theorem dX8_nought_21 : decode cX8_nought 21 = .ok (.ireturn, 1) := by decide +kernel
theorem dX8_nought_22 : decode cX8_nought 22 = .ok (.aload_n 0, 1) := by decide +kernel
theorem dX8_nought_23 : decode cX8_nought 23 = .ok (.iload_n 1, 1) := by decide +kernel
theorem dX8_nought_24 : decode cX8_nought 24 = .ok (.invokevirtual 135, 3) := by decide +kernel
theorem dX8_nought_27 : decode cX8_nought 27 = .ok (.astore 4, 2) := by decide +kernel
theorem dX8_nought_29 : decode cX8_nought 29 = .ok (.aload 4, 2) := by decide +kernel
theorem dX8_nought_31 : decode cX8_nought 31 = .ok (.getfield 146, 3) := by decide +kernel
theorem dX8_nought_34 : decode cX8_nought 34 = .ok (.iload_n 2, 1) := by decide +kernel
theorem dX8_nought_35 : decode cX8_nought 35 = .ok (.iload_n 3, 1) := by decide +kernel
theorem dX8_nought_36 : decode cX8_nought 36 = .ok (.invokestatic 142, 3) := by decide +kernel
theorem dX8_nought_39 : decode cX8_nought 39 = .ok (.iaload, 1) := by decide +kernel
theorem dX8_nought_40 : decode cX8_nought 40 = .ok (.istore 5, 2) := by decide +kernel
theorem dX8_nought_42 : decode cX8_nought 42 = .ok (.aload 4, 2) := by decide +kernel
theorem dX8_nought_44 : decode cX8_nought 44 = .ok (.getfield 146, 3) := by decide +kernel
theorem dX8_nought_47 : decode cX8_nought 47 = .ok (.iload_n 2, 1) := by decide +kernel
theorem dX8_nought_48 : decode cX8_nought 48 = .ok (.iload_n 3, 1) := by decide +kernel
theorem dX8_nought_49 : decode cX8_nought 49 = .ok (.iconst 1, 1) := by decide +kernel
theorem dX8_nought_50 : decode cX8_nought 50 = .ok (.iadd, 1) := by decide +kernel
theorem dX8_nought_51 : decode cX8_nought 51 = .ok (.invokestatic 142, 3) := by decide +kernel
theorem dX8_nought_54 : decode cX8_nought 54 = .ok (.iaload, 1) := by decide +kernel
theorem dX8_nought_55 : decode cX8_nought 55 = .ok (.istore 6, 2) := by decide +kernel
theorem dX8_nought_57 : decode cX8_nought 57 = .ok (.aload_n 0, 1) := by decide +kernel
theorem dX8_nought_58 : decode cX8_nought 58 = .ok (.iload_n 3, 1) := by decide +kernel
theorem dX8_nought_59 : decode cX8_nought 59 = .ok (.iload 5, 2) := by decide +kernel
theorem dX8_nought_61 : decode cX8_nought 61 = .ok (.iload 6, 2) := by decide +kernel
theorem dX8_nought_63 : decode cX8_nought 63 = .ok (.invokestatic 196, 3) := by decide +kernel
theorem dX8_nought_66 : decode cX8_nought 66 = .ok (.invokevirtual 98, 3) := by decide +kernel
theorem dX8_nought_69 : decode cX8_nought 69 = .ok (.ireturn, 1) := by decide +kernel
theorem dX8_span_0 : decode cX8_span 0 = .ok (.aload_n 0, 1) := by decide +kernel
theorem dX8_span_1 : decode cX8_span 1 = .ok (.iload_n 1, 1) := by decide +kernel
theorem dX8_span_2 : decode cX8_span 2 = .ok (.iload_n 2, 1) := by decide +kernel
theorem dX8_span_3 : decode cX8_span 3 = .ok (.iload_n 3, 1) := by decide +kernel
theorem dX8_span_4 : decode cX8_span 4 = .ok (.invokevirtual 131, 3) := by decide +kernel
theorem dX8_span_7 : decode cX8_span 7 = .ok (.ifCond .eq 9, 3) := by decide +kernel
theorem dX8_span_10 : decode cX8_span 10 = .ok (.iload_n 3, 1) := by decide +kernel
theorem dX8_span_11 : decode cX8_span 11 = .ok (.bipush 59, 2) := by decide +kernel
theorem dX8_span_13 : decode cX8_span 13 = .ok (.if_icmp .lt 9, 3) := by decide +kernel
theorem dX8_span_16 : decode cX8_span 16 = .ok (.aload_n 0, 1) := by decide +kernel
theorem dX8_span_17 : decode cX8_span 17 = .ok (.iconst 1, 1) := by decide +kernel
theorem dX8_span_18 : decode cX8_span 18 = .ok (.invokevirtual 81, 3) := by decide +kernel
theorem dX8_span_21 : decode cX8_span 21 = .ok (.ireturn, 1) := by decide +kernel
theorem dX8_span_22 : decode cX8_span 22 = .ok (.iload 4, 2) := by decide +kernel
theorem dX8_span_24 : decode cX8_span 24 = .ok (.ifCond .lt 10, 3) := by decide +kernel
theorem dX8_span_27 : decode cX8_span 27 = .ok (.iload 4, 2) := by decide +kernel
theorem dX8_span_29 : decode cX8_span 29 = .ok (.bipush 20, 2) := by decide +kernel
theorem dX8_span_31 : decode cX8_span 31 = .ok (.if_icmp .le 9, 3) := by decide +kernel
theorem dX8_span_34 : decode cX8_span 34 = .ok (.aload_n 0, 1) := by decide +kernel
theorem dX8_span_35 : decode cX8_span 35 = .ok (.iconst 2, 1) := by decide +kernel
theorem dX8_span_36 : decode cX8_span 36 = .ok (.invokevirtual 81, 3) := by decide +kernel
theorem dX8_span_39 : decode cX8_span 39 = .ok (.ireturn, 1) := by decide +kernel
theorem dX8_span_40 : decode cX8_span 40 = .ok (.aload_n 0, 1) := by decide +kernel
theorem dX8_span_41 : decode cX8_span 41 = .ok (.iload_n 1, 1) := by decide +kernel
theorem dX8_span_42 : decode cX8_span 42 = .ok (.invokevirtual 135, 3) := by decide +kernel
theorem dX8_span_45 : decode cX8_span 45 = .ok (.astore 6, 2) := by decide +kernel
theorem dX8_span_47 : decode cX8_span 47 = .ok (.aload 6, 2) := by decide +kernel
theorem dX8_span_49 : decode cX8_span 49 = .ok (.getfield 146, 3) := by decide +kernel
theorem dX8_span_52 : decode cX8_span 52 = .ok (.iload_n 2, 1) := by decide +kernel
theorem dX8_span_53 : decode cX8_span 53 = .ok (.iload_n 3, 1) := by decide +kernel
theorem dX8_span_54 : decode cX8_span 54 = .ok (.invokestatic 142, 3) := by decide +kernel
theorem dX8_span_57 : decode cX8_span 57 = .ok (.iaload, 1) := by decide +kernel
theorem dX8_span_58 : decode cX8_span 58 = .ok (.istore 7, 2) := by decide +kernel
theorem dX8_span_60 : decode cX8_span 60 = .ok (.aload 6, 2) := by decide +kernel
theorem dX8_span_62 : decode cX8_span 62 = .ok (.getfield 146, 3) := by decide +kernel
theorem dX8_span_65 : decode cX8_span 65 = .ok (.iload_n 2, 1) := by decide +kernel
theorem dX8_span_66 : decode cX8_span 66 = .ok (.iload_n 3, 1) := by decide +kernel
theorem dX8_span_67 : decode cX8_span 67 = .ok (.iconst 1, 1) := by decide +kernel
theorem dX8_span_68 : decode cX8_span 68 = .ok (.iadd, 1) := by decide +kernel
theorem dX8_span_69 : decode cX8_span 69 = .ok (.invokestatic 142, 3) := by decide +kernel
theorem dX8_span_72 : decode cX8_span 72 = .ok (.iaload, 1) := by decide +kernel
theorem dX8_span_73 : decode cX8_span 73 = .ok (.istore 8, 2) := by decide +kernel
theorem dX8_span_75 : decode cX8_span 75 = .ok (.bipush (-2), 2) := by decide +kernel
theorem dX8_span_77 : decode cX8_span 77 = .ok (.istore 9, 2) := by decide +kernel
theorem dX8_span_79 : decode cX8_span 79 = .ok (.iconst (-1), 1) := by decide +kernel
theorem dX8_span_80 : decode cX8_span 80 = .ok (.istore 10, 2) := by decide +kernel
theorem dX8_span_82 : decode cX8_span 82 = .ok (.iload 10, 2) := by decide +kernel
theorem dX8_span_84 : decode cX8_span 84 = .ok (.iconst 1, 1) := by decide +kernel
theorem dX8_span_85 : decode cX8_span 85 = .ok (.if_icmp .gt 86, 3) := by decide +kernel
theorem dX8_span_88 : decode cX8_span 88 = .ok (.iconst (-1), 1) := by decide +kernel
theorem dX8_span_89 : decode cX8_span 89 = .ok (.istore 11, 2) := by decide +kernel
theorem dX8_span_91 : decode cX8_span 91 = .ok (.iload 11, 2) := by decide +kernel
theorem dX8_span_93 : decode cX8_span 93 = .ok (.iconst 1, 1) := by decide +kernel
theorem dX8_span_94 : decode cX8_span 94 = .ok (.if_icmp .gt 71, 3) := by decide +kernel
theorem dX8_span_97 : decode cX8_span 97 = .ok (.iload_n 3, 1) := by decide +kernel
theorem dX8_span_98 : decode cX8_span 98 = .ok (.iload 7, 2) := by decide +kernel
theorem dX8_span_100 : decode cX8_span 100 = .ok (.iload 10, 2) := by decide +kernel
theorem dX8_span_102 : decode cX8_span 102 = .ok (.iload 4, 2) := by decide +kernel
theorem dX8_span_104 : decode cX8_span 104 = .ok (.imul, 1) := by decide +kernel
theorem dX8_span_105 : decode cX8_span 105 = .ok (.iadd, 1) := by decide +kernel
theorem dX8_span_106 : decode cX8_span 106 = .ok (.iload 8, 2) := by decide +kernel
theorem dX8_span_108 : decode cX8_span 108 = .ok (.iload 11, 2) := by decide +kernel
theorem dX8_span_110 : decode cX8_span 110 = .ok (.iload 4, 2) := by decide +kernel
theorem dX8_span_112 : decode cX8_span 112 = .ok (.imul, 1) := by decide +kernel
theorem dX8_span_113 : decode cX8_span 113 = .ok (.iadd, 1) := by decide +kernel
theorem dX8_span_114 : decode cX8_span 114 = .ok (.invokestatic 196, 3) := by decide +kernel
theorem dX8_span_117 : decode cX8_span 117 = .ok (.istore 12, 2) := by decide +kernel
theorem dX8_span_119 : decode cX8_span 119 = .ok (.iload 12, 2) := by decide +kernel
theorem dX8_span_121 : decode cX8_span 121 = .ok (.bipush (-2), 2) := by decide +kernel
theorem dX8_span_123 : decode cX8_span 123 = .ok (.if_icmp .eq 36, 3) := by decide +kernel
theorem dX8_span_126 : decode cX8_span 126 = .ok (.iload 9, 2) := by decide +kernel
theorem dX8_span_128 : decode cX8_span 128 = .ok (.bipush (-2), 2) := by decide +kernel
theorem dX8_span_130 : decode cX8_span 130 = .ok (.if_icmp .eq 25, 3) := by decide +kernel
theorem dX8_span_133 : decode cX8_span 133 = .ok (.iload 5, 2) := by decide +kernel
theorem dX8_span_135 : decode cX8_span 135 = .ok (.ifCond .eq 13, 3) := by decide +kernel
theorem dX8_span_138 : decode cX8_span 138 = .ok (.iload 12, 2) := by decide +kernel
theorem dX8_span_140 : decode cX8_span 140 = .ok (.iload 9, 2) := by decide +kernel
theorem dX8_span_142 : decode cX8_span 142 = .ok (.if_icmp .le 17, 3) := by decide +kernel
theorem dX8_span_145 : decode cX8_span 145 = .ok (.goto 10, 3) := by decide +kernel
theorem dX8_span_148 : decode cX8_span 148 = .ok (.iload 12, 2) := by decide +kernel
theorem dX8_span_150 : decode cX8_span 150 = .ok (.iload 9, 2) := by decide +kernel
theorem dX8_span_152 : decode cX8_span 152 = .ok (.if_icmp .ge 7, 3) := by decide +kernel
theorem dX8_span_155 : decode cX8_span 155 = .ok (.iload 12, 2) := by decide +kernel
theorem dX8_span_157 : decode cX8_span 157 = .ok (.istore 9, 2) := by decide +kernel
theorem dX8_span_159 : decode cX8_span 159 = .ok (.iinc 11 1, 3) := by decide +kernel

